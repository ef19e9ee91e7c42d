/-! TEXT: tokens -/
/-! TEXT: tokens -/
def snN (P : Int → Prop) [DecidablePred P] (L : Int) : Nat → Int → Int
  | 0, p => p
  | n + 1, p => if p < L ∧ P p then snN P L n (p + 1) else p
def snP (P : Int → Prop) [DecidablePred P] (L p : Int) : Int := snN P L (L - p).toNat p
theorem sn_y {P : Int → Prop} [DecidablePred P] {L p : Int} (a : p < L) (c : P p) : snP P L p = snP P L (p + 1) := by
  unfold snP
  rw [show (L - p).toNat = (L - (p + 1)).toNat + 1 by omega]
  exact if_pos ⟨a, c⟩
theorem sn_n {P : Int → Prop} [DecidablePred P] {L p : Int} (a : ¬ (p < L ∧ P p)) : snP P L p = p := by
  unfold snP
  cases (L - p).toNat with
  | zero => rfl
  | succ n => exact if_neg a
theorem sn_p {P : Int → Prop} [DecidablePred P] {L : Int} : ∀ (n : Nat) (p : Int), (L - p).toNat = n → p ≤ snP P L p ∧ (p ≤ L → snP P L p ≤ L) ∧ (∀ j, p ≤ j → j < snP P L p → P j) := by
  intro n
  induction n with
  | zero =>
    intro p h
    rw [sn_n (fun z => by omega)]
    exact ⟨Int.le_refl _, fun z => z, fun j a c => by omega⟩
  | succ n ih =>
    intro p h
    by_cases q : p < L ∧ P p
    · have i := ih (p + 1) (by omega)
      rw [sn_y q.1 q.2]
      refine ⟨by omega, fun z => i.2.1 (by omega), fun j a c => ?_⟩
      by_cases w : j = p
      · rw [w]; exact q.2
      · exact i.2.2 j (by omega) c
    · rw [sn_n q]
      exact ⟨Int.le_refl _, fun z => z, fun j a c => by omega⟩
theorem sn_b {P : Int → Prop} [DecidablePred P] {L p : Int} : p ≤ snP P L p ∧ (p ≤ L → snP P L p ≤ L) := ⟨(sn_p _ p rfl).1, (sn_p _ p rfl).2.1⟩
def tkS (T : Int → Int) (L p : Int) : Int := snP (fun j => T j = 10 ∨ T j = 32) L p
def ltE (T : Int → Int) (L p : Int) : Int := snP (fun j => 97 ≤ T j ∧ T j ≤ 122) L p
def dgE (T : Int → Int) (L p : Int) : Int := snP (fun j => 48 ≤ T j ∧ T j ≤ 57) L p
def tkE (T : Int → Int) (L p : Int) : Int := if L ≤ tkS T L p then tkS T L p else if 97 ≤ T (tkS T L p) ∧ T (tkS T L p) ≤ 122 then ltE T L (tkS T L p) else if 48 ≤ T (tkS T L p) ∧ T (tkS T L p) ≤ 57 then dgE T L (tkS T L p) else tkS T L p + 1
def tkK (T : Int → Int) (L p : Int) : Int := if L ≤ tkS T L p then 3 else if 97 ≤ T (tkS T L p) ∧ T (tkS T L p) ≤ 122 then 0 else if 48 ≤ T (tkS T L p) ∧ T (tkS T L p) ≤ 57 then (if dgE T L (tkS T L p) - tkS T L p ≤ 2 then 1 else 4) else if T (tkS T L p) = 59 then 2 else 4
def tvZ (T : Int → Int) (s e : Int) : Int := if e - s = 1 then T s - 48 else 10 * (T s - 48) + (T (s + 1) - 48)
def tkV (T : Int → Int) (L p : Int) : Int := tvZ T (tkS T L p) (tkE T L p)
def bwN (T : Int → Int) (s : Int) : Nat → Int
  | 0 => 0
  | n + 1 => bwN T s n * 256 + T (s + n)
def tkW (T : Int → Int) (L p : Int) : Int := if tkK T L p = 0 ∧ tkE T L p - tkS T L p ≤ 8 then bwN T (tkS T L p) (tkE T L p - tkS T L p).toNat else 0
theorem dg_1 {T : Int → Int} {L s : Int} (a : s < L) (c : 48 ≤ T s ∧ T s ≤ 57) : s < dgE T L s := by
  unfold dgE
  rw [sn_y (P := fun j => 48 ≤ T j ∧ T j ≤ 57) a c]
  have := (sn_b (P := fun j => 48 ≤ T j ∧ T j ≤ 57) (L := L) (p := s + 1)).1
  omega
theorem lt_1 {T : Int → Int} {L s : Int} (a : s < L) (c : 97 ≤ T s ∧ T s ≤ 122) : s < ltE T L s := by
  unfold ltE
  rw [sn_y (P := fun j => 97 ≤ T j ∧ T j ≤ 122) a c]
  have := (sn_b (P := fun j => 97 ≤ T j ∧ T j ≤ 122) (L := L) (p := s + 1)).1
  omega
/-- the four shapes of a token -/
theorem tk_c (T : Int → Int) (L p : Int) : (L ≤ tkS T L p ∧ tkK T L p = 3 ∧ tkE T L p = tkS T L p) ∨ (tkS T L p < L ∧ (97 ≤ T (tkS T L p) ∧ T (tkS T L p) ≤ 122) ∧ tkK T L p = 0 ∧ tkE T L p = ltE T L (tkS T L p)) ∨ (tkS T L p < L ∧ (48 ≤ T (tkS T L p) ∧ T (tkS T L p) ≤ 57) ∧ tkE T L p = dgE T L (tkS T L p) ∧ ((tkK T L p = 1 ∧ dgE T L (tkS T L p) - tkS T L p ≤ 2) ∨ (tkK T L p = 4 ∧ 2 < dgE T L (tkS T L p) - tkS T L p))) ∨ (tkS T L p < L ∧ ¬ (97 ≤ T (tkS T L p) ∧ T (tkS T L p) ≤ 122) ∧ ¬ (48 ≤ T (tkS T L p) ∧ T (tkS T L p) ≤ 57) ∧ tkE T L p = tkS T L p + 1 ∧ ((tkK T L p = 2 ∧ T (tkS T L p) = 59) ∨ (tkK T L p = 4 ∧ T (tkS T L p) ≠ 59))) := by
  unfold tkE tkK
  generalize tkS T L p = s
  by_cases h1 : L ≤ s
  · rw [if_pos h1, if_pos h1]; exact Or.inl ⟨h1, rfl, rfl⟩
  rw [if_neg h1, if_neg h1]
  by_cases h2 : 97 ≤ T s ∧ T s ≤ 122
  · rw [if_pos h2, if_pos h2]; exact Or.inr (Or.inl ⟨by omega, h2, rfl, rfl⟩)
  rw [if_neg h2, if_neg h2]
  by_cases h3 : 48 ≤ T s ∧ T s ≤ 57
  · rw [if_pos h3, if_pos h3]
    refine Or.inr (Or.inr (Or.inl ⟨by omega, h3, rfl, ?_⟩))
    by_cases h4 : dgE T L s - s ≤ 2
    · rw [if_pos h4]; exact Or.inl ⟨rfl, h4⟩
    · rw [if_neg h4]; exact Or.inr ⟨rfl, by omega⟩
  rw [if_neg h3, if_neg h3]
  refine Or.inr (Or.inr (Or.inr ⟨by omega, h2, h3, rfl, ?_⟩))
  by_cases h4 : T s = 59
  · rw [if_pos h4]; exact Or.inl ⟨rfl, h4⟩
  · rw [if_neg h4]; exact Or.inr ⟨rfl, h4⟩
theorem tk_b {T : Int → Int} {L p : Int} (p0 : 0 ≤ p) (p1 : p ≤ L) : (p ≤ tkS T L p ∧ tkS T L p ≤ tkE T L p ∧ tkE T L p ≤ L) ∧ (tkK T L p ≠ 3 → tkS T L p < tkE T L p) ∧ (tkK T L p = 3 → tkS T L p = L) ∧ (0 ≤ tkK T L p ∧ tkK T L p ≤ 4) := by
  have sb := sn_b (P := fun j => T j = 10 ∨ T j = 32) (L := L) (p := p)
  have sb : p ≤ tkS T L p ∧ (p ≤ L → tkS T L p ≤ L) := sb
  have lb := sn_b (P := fun j => 97 ≤ T j ∧ T j ≤ 122) (L := L) (p := tkS T L p)
  have lb : tkS T L p ≤ ltE T L (tkS T L p) ∧ (tkS T L p ≤ L → ltE T L (tkS T L p) ≤ L) := lb
  have db := sn_b (P := fun j => 48 ≤ T j ∧ T j ≤ 57) (L := L) (p := tkS T L p)
  have db : tkS T L p ≤ dgE T L (tkS T L p) ∧ (tkS T L p ≤ L → dgE T L (tkS T L p) ≤ L) := db
  have s2 := sb.2 p1
  have l2 := lb.2 s2
  have d2 := db.2 s2
  rcases tk_c T L p with h | h | h | h
  · omega
  · have := lt_1 h.1 h.2.1; omega
  · have := dg_1 h.1 h.2.1; omega
  · omega
theorem tv_b {T : Int → Int} {L p : Int} (k : tkK T L p = 1) : 0 ≤ tkV T L p ∧ tkV T L p ≤ 99 := by
  rcases tk_c T L p with h | h | h | h
  · omega
  · omega
  · have a := dg_1 h.1 h.2.1
    have e := (sn_p (P := fun j => 48 ≤ T j ∧ T j ≤ 57) (L := L) _ (tkS T L p) rfl).2.2
    have e : ∀ j, tkS T L p ≤ j → j < dgE T L (tkS T L p) → 48 ≤ T j ∧ T j ≤ 57 := e
    unfold tkV tvZ
    rw [h.2.2.1]
    by_cases q : dgE T L (tkS T L p) - tkS T L p = 1
    · rw [if_pos q]; omega
    · rw [if_neg q]
      have := e (tkS T L p + 1) (by omega) (by omega)
      omega
  · omega
theorem tw_l {T : Int → Int} {L p : Int} (k : tkK T L p = 0) : tkS T L p < tkE T L p ∧ ∀ j, tkS T L p ≤ j → j < tkE T L p → 97 ≤ T j ∧ T j ≤ 122 := by
  rcases tk_c T L p with h | h | h | h
  · omega
  · rw [h.2.2.2]
    exact ⟨lt_1 h.1 h.2.1, (sn_p (P := fun j => 97 ≤ T j ∧ T j ≤ 122) (L := L) _ (tkS T L p) rfl).2.2⟩
  · omega
  · omega
theorem tw_0 {T : Int → Int} {L p : Int} (k : tkK T L p ≠ 0) : tkW T L p = 0 := if_neg (fun z => k z.1)
theorem bw_b {T : Int → Int} {s : Int} {n : Nat} (h : ∀ j : Int, s ≤ j → j < s + n → 97 ≤ T j ∧ T j ≤ 122) : 0 ≤ bwN T s n := by
  induction n with
  | zero => exact Int.le_refl _
  | succ n ih =>
    have a := ih (fun j x y => h j x (by omega))
    have c := h (s + n) (by omega) (by omega)
    show 0 ≤ bwN T s n * 256 + T (s + n)
    omega
theorem bw_8 (T : Int → Int) (s : Int) : bwN T s 1 = T s ∧ bwN T s 2 = T s * 256 + T (s + 1) ∧ bwN T s 3 = (T s * 256 + T (s + 1)) * 256 + T (s + 2) ∧ bwN T s 4 = ((T s * 256 + T (s + 1)) * 256 + T (s + 2)) * 256 + T (s + 3) ∧ bwN T s 5 = (((T s * 256 + T (s + 1)) * 256 + T (s + 2)) * 256 + T (s + 3)) * 256 + T (s + 4) ∧ bwN T s 6 = ((((T s * 256 + T (s + 1)) * 256 + T (s + 2)) * 256 + T (s + 3)) * 256 + T (s + 4)) * 256 + T (s + 5) ∧ bwN T s 7 = (((((T s * 256 + T (s + 1)) * 256 + T (s + 2)) * 256 + T (s + 3)) * 256 + T (s + 4)) * 256 + T (s + 5)) * 256 + T (s + 6) ∧ bwN T s 8 = ((((((T s * 256 + T (s + 1)) * 256 + T (s + 2)) * 256 + T (s + 3)) * 256 + T (s + 4)) * 256 + T (s + 5)) * 256 + T (s + 6)) * 256 + T (s + 7) := by
  have e1 : bwN T s 1 = T s := by show 0 * 256 + T (s + ((0 : Nat) : Int)) = T s; rw [show s + ((0 : Nat) : Int) = s by omega]; omega
  have e2 : bwN T s 2 = bwN T s 1 * 256 + T (s + 1) := rfl
  have e3 : bwN T s 3 = bwN T s 2 * 256 + T (s + 2) := rfl
  have e4 : bwN T s 4 = bwN T s 3 * 256 + T (s + 3) := rfl
  have e5 : bwN T s 5 = bwN T s 4 * 256 + T (s + 4) := rfl
  have e6 : bwN T s 6 = bwN T s 5 * 256 + T (s + 5) := rfl
  have e7 : bwN T s 7 = bwN T s 6 * 256 + T (s + 6) := rfl
  have e8 : bwN T s 8 = bwN T s 7 * 256 + T (s + 7) := rfl
  refine ⟨e1, ?_, ?_, ?_, ?_, ?_, ?_, ?_⟩
  · rw [e2, e1]
  · rw [e3, e2, e1]
  · rw [e4, e3, e2, e1]
  · rw [e5, e4, e3, e2, e1]
  · rw [e6, e5, e4, e3, e2, e1]
  · rw [e7, e6, e5, e4, e3, e2, e1]
  · rw [e8, e7, e6, e5, e4, e3, e2, e1]
theorem tw_b {T : Int → Int} {L p : Int} : 0 ≤ tkW T L p ∧ tkW T L p < 9223372036854775808 := by
  unfold tkW
  by_cases q : tkK T L p = 0 ∧ tkE T L p - tkS T L p ≤ 8
  · rw [if_pos q]
    have l := tw_l q.1
    generalize tkS T L p = s at *
    generalize tkE T L p = e at *
    obtain ⟨b1, b2, b3, b4, b5, b6, b7, b8⟩ := bw_8 T s
    rcases (show e - s = 1 ∨ e - s = 2 ∨ e - s = 3 ∨ e - s = 4 ∨ e - s = 5 ∨ e - s = 6 ∨ e - s = 7 ∨ e - s = 8 by omega) with z | z | z | z | z | z | z | z
    · skip
      have l0 := l.2 s (by omega) (by omega)
      rw [z, show ((1 : Int)).toNat = 1 from rfl, b1]; omega
    · skip
      have l0 := l.2 s (by omega) (by omega)
      have l1 := l.2 (s + 1) (by omega) (by omega)
      rw [z, show ((2 : Int)).toNat = 2 from rfl, b2]; omega
    · skip
      have l0 := l.2 s (by omega) (by omega)
      have l1 := l.2 (s + 1) (by omega) (by omega)
      have l2 := l.2 (s + 2) (by omega) (by omega)
      rw [z, show ((3 : Int)).toNat = 3 from rfl, b3]; omega
    · skip
      have l0 := l.2 s (by omega) (by omega)
      have l1 := l.2 (s + 1) (by omega) (by omega)
      have l2 := l.2 (s + 2) (by omega) (by omega)
      have l3 := l.2 (s + 3) (by omega) (by omega)
      rw [z, show ((4 : Int)).toNat = 4 from rfl, b4]; omega
    · skip
      have l0 := l.2 s (by omega) (by omega)
      have l1 := l.2 (s + 1) (by omega) (by omega)
      have l2 := l.2 (s + 2) (by omega) (by omega)
      have l3 := l.2 (s + 3) (by omega) (by omega)
      have l4 := l.2 (s + 4) (by omega) (by omega)
      rw [z, show ((5 : Int)).toNat = 5 from rfl, b5]; omega
    · skip
      have l0 := l.2 s (by omega) (by omega)
      have l1 := l.2 (s + 1) (by omega) (by omega)
      have l2 := l.2 (s + 2) (by omega) (by omega)
      have l3 := l.2 (s + 3) (by omega) (by omega)
      have l4 := l.2 (s + 4) (by omega) (by omega)
      have l5 := l.2 (s + 5) (by omega) (by omega)
      rw [z, show ((6 : Int)).toNat = 6 from rfl, b6]; omega
    · skip
      have l0 := l.2 s (by omega) (by omega)
      have l1 := l.2 (s + 1) (by omega) (by omega)
      have l2 := l.2 (s + 2) (by omega) (by omega)
      have l3 := l.2 (s + 3) (by omega) (by omega)
      have l4 := l.2 (s + 4) (by omega) (by omega)
      have l5 := l.2 (s + 5) (by omega) (by omega)
      have l6 := l.2 (s + 6) (by omega) (by omega)
      rw [z, show ((7 : Int)).toNat = 7 from rfl, b7]; omega
    · skip
      have l0 := l.2 s (by omega) (by omega)
      have l1 := l.2 (s + 1) (by omega) (by omega)
      have l2 := l.2 (s + 2) (by omega) (by omega)
      have l3 := l.2 (s + 3) (by omega) (by omega)
      have l4 := l.2 (s + 4) (by omega) (by omega)
      have l5 := l.2 (s + 5) (by omega) (by omega)
      have l6 := l.2 (s + 6) (by omega) (by omega)
      have l7 := l.2 (s + 7) (by omega) (by omega)
      rw [z, show ((8 : Int)).toNat = 8 from rfl, b8]; omega
  · rw [if_neg q]; omega
theorem tw_down {T : Int → Int} {L p : Int} (k : tkK T L p = 0) : tkW T L p = 1685026670 ↔ (tkE T L p - tkS T L p = 4 ∧ T (tkS T L p) = 100 ∧ T (tkS T L p + 1) = 111 ∧ T (tkS T L p + 2) = 119 ∧ T (tkS T L p + 3) = 110) := by
  have l := tw_l k
  unfold tkW
  generalize tkS T L p = s at *
  generalize tkE T L p = e at *
  by_cases q : e - s ≤ 8
  · rw [if_pos ⟨k, q⟩]
    obtain ⟨b1, b2, b3, b4, b5, b6, b7, b8⟩ := bw_8 T s
    rcases (show e - s = 1 ∨ e - s = 2 ∨ e - s = 3 ∨ e - s = 4 ∨ e - s = 5 ∨ e - s = 6 ∨ e - s = 7 ∨ e - s = 8 by omega) with z | z | z | z | z | z | z | z
    · skip
      have l0 := l.2 s (by omega) (by omega)
      rw [z, show ((1 : Int)).toNat = 1 from rfl, b1]; clear l b1 b2 b3 b4 b5 b6 b7 b8; omega
    · skip
      have l0 := l.2 s (by omega) (by omega)
      have l1 := l.2 (s + 1) (by omega) (by omega)
      rw [z, show ((2 : Int)).toNat = 2 from rfl, b2]; clear l b1 b2 b3 b4 b5 b6 b7 b8; omega
    · skip
      have l0 := l.2 s (by omega) (by omega)
      have l1 := l.2 (s + 1) (by omega) (by omega)
      have l2 := l.2 (s + 2) (by omega) (by omega)
      rw [z, show ((3 : Int)).toNat = 3 from rfl, b3]; clear l b1 b2 b3 b4 b5 b6 b7 b8; omega
    · skip
      have l0 := l.2 s (by omega) (by omega)
      have l1 := l.2 (s + 1) (by omega) (by omega)
      have l2 := l.2 (s + 2) (by omega) (by omega)
      have l3 := l.2 (s + 3) (by omega) (by omega)
      rw [z, show ((4 : Int)).toNat = 4 from rfl, b4]; clear l b1 b2 b3 b4 b5 b6 b7 b8; omega
    · skip
      have l0 := l.2 s (by omega) (by omega)
      have l1 := l.2 (s + 1) (by omega) (by omega)
      have l2 := l.2 (s + 2) (by omega) (by omega)
      have l3 := l.2 (s + 3) (by omega) (by omega)
      have l4 := l.2 (s + 4) (by omega) (by omega)
      rw [z, show ((5 : Int)).toNat = 5 from rfl, b5]; clear l b1 b2 b3 b4 b5 b6 b7 b8; omega
    · skip
      have l0 := l.2 s (by omega) (by omega)
      have l1 := l.2 (s + 1) (by omega) (by omega)
      have l2 := l.2 (s + 2) (by omega) (by omega)
      have l3 := l.2 (s + 3) (by omega) (by omega)
      have l4 := l.2 (s + 4) (by omega) (by omega)
      have l5 := l.2 (s + 5) (by omega) (by omega)
      rw [z, show ((6 : Int)).toNat = 6 from rfl, b6]; clear l b1 b2 b3 b4 b5 b6 b7 b8; omega
    · skip
      have l0 := l.2 s (by omega) (by omega)
      have l1 := l.2 (s + 1) (by omega) (by omega)
      have l2 := l.2 (s + 2) (by omega) (by omega)
      have l3 := l.2 (s + 3) (by omega) (by omega)
      have l4 := l.2 (s + 4) (by omega) (by omega)
      have l5 := l.2 (s + 5) (by omega) (by omega)
      have l6 := l.2 (s + 6) (by omega) (by omega)
      rw [z, show ((7 : Int)).toNat = 7 from rfl, b7]; clear l b1 b2 b3 b4 b5 b6 b7 b8; omega
    · skip
      have l0 := l.2 s (by omega) (by omega)
      have l1 := l.2 (s + 1) (by omega) (by omega)
      have l2 := l.2 (s + 2) (by omega) (by omega)
      have l3 := l.2 (s + 3) (by omega) (by omega)
      have l4 := l.2 (s + 4) (by omega) (by omega)
      have l5 := l.2 (s + 5) (by omega) (by omega)
      have l6 := l.2 (s + 6) (by omega) (by omega)
      have l7 := l.2 (s + 7) (by omega) (by omega)
      rw [z, show ((8 : Int)).toNat = 8 from rfl, b8]; clear l b1 b2 b3 b4 b5 b6 b7 b8; omega
  · rw [if_neg (fun z => q z.2)]; exact ⟨fun z => by omega, fun z => by omega⟩
theorem tw_up {T : Int → Int} {L p : Int} (k : tkK T L p = 0) : tkW T L p = 30064 ↔ (tkE T L p - tkS T L p = 2 ∧ T (tkS T L p) = 117 ∧ T (tkS T L p + 1) = 112) := by
  have l := tw_l k
  unfold tkW
  generalize tkS T L p = s at *
  generalize tkE T L p = e at *
  by_cases q : e - s ≤ 8
  · rw [if_pos ⟨k, q⟩]
    obtain ⟨b1, b2, b3, b4, b5, b6, b7, b8⟩ := bw_8 T s
    rcases (show e - s = 1 ∨ e - s = 2 ∨ e - s = 3 ∨ e - s = 4 ∨ e - s = 5 ∨ e - s = 6 ∨ e - s = 7 ∨ e - s = 8 by omega) with z | z | z | z | z | z | z | z
    · skip
      have l0 := l.2 s (by omega) (by omega)
      rw [z, show ((1 : Int)).toNat = 1 from rfl, b1]; clear l b1 b2 b3 b4 b5 b6 b7 b8; omega
    · skip
      have l0 := l.2 s (by omega) (by omega)
      have l1 := l.2 (s + 1) (by omega) (by omega)
      rw [z, show ((2 : Int)).toNat = 2 from rfl, b2]; clear l b1 b2 b3 b4 b5 b6 b7 b8; omega
    · skip
      have l0 := l.2 s (by omega) (by omega)
      have l1 := l.2 (s + 1) (by omega) (by omega)
      have l2 := l.2 (s + 2) (by omega) (by omega)
      rw [z, show ((3 : Int)).toNat = 3 from rfl, b3]; clear l b1 b2 b3 b4 b5 b6 b7 b8; omega
    · skip
      have l0 := l.2 s (by omega) (by omega)
      have l1 := l.2 (s + 1) (by omega) (by omega)
      have l2 := l.2 (s + 2) (by omega) (by omega)
      have l3 := l.2 (s + 3) (by omega) (by omega)
      rw [z, show ((4 : Int)).toNat = 4 from rfl, b4]; clear l b1 b2 b3 b4 b5 b6 b7 b8; omega
    · skip
      have l0 := l.2 s (by omega) (by omega)
      have l1 := l.2 (s + 1) (by omega) (by omega)
      have l2 := l.2 (s + 2) (by omega) (by omega)
      have l3 := l.2 (s + 3) (by omega) (by omega)
      have l4 := l.2 (s + 4) (by omega) (by omega)
      rw [z, show ((5 : Int)).toNat = 5 from rfl, b5]; clear l b1 b2 b3 b4 b5 b6 b7 b8; omega
    · skip
      have l0 := l.2 s (by omega) (by omega)
      have l1 := l.2 (s + 1) (by omega) (by omega)
      have l2 := l.2 (s + 2) (by omega) (by omega)
      have l3 := l.2 (s + 3) (by omega) (by omega)
      have l4 := l.2 (s + 4) (by omega) (by omega)
      have l5 := l.2 (s + 5) (by omega) (by omega)
      rw [z, show ((6 : Int)).toNat = 6 from rfl, b6]; clear l b1 b2 b3 b4 b5 b6 b7 b8; omega
    · skip
      have l0 := l.2 s (by omega) (by omega)
      have l1 := l.2 (s + 1) (by omega) (by omega)
      have l2 := l.2 (s + 2) (by omega) (by omega)
      have l3 := l.2 (s + 3) (by omega) (by omega)
      have l4 := l.2 (s + 4) (by omega) (by omega)
      have l5 := l.2 (s + 5) (by omega) (by omega)
      have l6 := l.2 (s + 6) (by omega) (by omega)
      rw [z, show ((7 : Int)).toNat = 7 from rfl, b7]; clear l b1 b2 b3 b4 b5 b6 b7 b8; omega
    · skip
      have l0 := l.2 s (by omega) (by omega)
      have l1 := l.2 (s + 1) (by omega) (by omega)
      have l2 := l.2 (s + 2) (by omega) (by omega)
      have l3 := l.2 (s + 3) (by omega) (by omega)
      have l4 := l.2 (s + 4) (by omega) (by omega)
      have l5 := l.2 (s + 5) (by omega) (by omega)
      have l6 := l.2 (s + 6) (by omega) (by omega)
      have l7 := l.2 (s + 7) (by omega) (by omega)
      rw [z, show ((8 : Int)).toNat = 8 from rfl, b8]; clear l b1 b2 b3 b4 b5 b6 b7 b8; omega
  · rw [if_neg (fun z => q z.2)]; exact ⟨fun z => by omega, fun z => by omega⟩
theorem tw_cloth {T : Int → Int} {L p : Int} (k : tkK T L p = 0) : tkW T L p = 427021005928 ↔ (tkE T L p - tkS T L p = 5 ∧ T (tkS T L p) = 99 ∧ T (tkS T L p + 1) = 108 ∧ T (tkS T L p + 2) = 111 ∧ T (tkS T L p + 3) = 116 ∧ T (tkS T L p + 4) = 104) := by
  have l := tw_l k
  unfold tkW
  generalize tkS T L p = s at *
  generalize tkE T L p = e at *
  by_cases q : e - s ≤ 8
  · rw [if_pos ⟨k, q⟩]
    obtain ⟨b1, b2, b3, b4, b5, b6, b7, b8⟩ := bw_8 T s
    rcases (show e - s = 1 ∨ e - s = 2 ∨ e - s = 3 ∨ e - s = 4 ∨ e - s = 5 ∨ e - s = 6 ∨ e - s = 7 ∨ e - s = 8 by omega) with z | z | z | z | z | z | z | z
    · skip
      have l0 := l.2 s (by omega) (by omega)
      rw [z, show ((1 : Int)).toNat = 1 from rfl, b1]; clear l b1 b2 b3 b4 b5 b6 b7 b8; omega
    · skip
      have l0 := l.2 s (by omega) (by omega)
      have l1 := l.2 (s + 1) (by omega) (by omega)
      rw [z, show ((2 : Int)).toNat = 2 from rfl, b2]; clear l b1 b2 b3 b4 b5 b6 b7 b8; omega
    · skip
      have l0 := l.2 s (by omega) (by omega)
      have l1 := l.2 (s + 1) (by omega) (by omega)
      have l2 := l.2 (s + 2) (by omega) (by omega)
      rw [z, show ((3 : Int)).toNat = 3 from rfl, b3]; clear l b1 b2 b3 b4 b5 b6 b7 b8; omega
    · skip
      have l0 := l.2 s (by omega) (by omega)
      have l1 := l.2 (s + 1) (by omega) (by omega)
      have l2 := l.2 (s + 2) (by omega) (by omega)
      have l3 := l.2 (s + 3) (by omega) (by omega)
      rw [z, show ((4 : Int)).toNat = 4 from rfl, b4]; clear l b1 b2 b3 b4 b5 b6 b7 b8; omega
    · skip
      have l0 := l.2 s (by omega) (by omega)
      have l1 := l.2 (s + 1) (by omega) (by omega)
      have l2 := l.2 (s + 2) (by omega) (by omega)
      have l3 := l.2 (s + 3) (by omega) (by omega)
      have l4 := l.2 (s + 4) (by omega) (by omega)
      rw [z, show ((5 : Int)).toNat = 5 from rfl, b5]; clear l b1 b2 b3 b4 b5 b6 b7 b8; omega
    · skip
      have l0 := l.2 s (by omega) (by omega)
      have l1 := l.2 (s + 1) (by omega) (by omega)
      have l2 := l.2 (s + 2) (by omega) (by omega)
      have l3 := l.2 (s + 3) (by omega) (by omega)
      have l4 := l.2 (s + 4) (by omega) (by omega)
      have l5 := l.2 (s + 5) (by omega) (by omega)
      rw [z, show ((6 : Int)).toNat = 6 from rfl, b6]; clear l b1 b2 b3 b4 b5 b6 b7 b8; omega
    · skip
      have l0 := l.2 s (by omega) (by omega)
      have l1 := l.2 (s + 1) (by omega) (by omega)
      have l2 := l.2 (s + 2) (by omega) (by omega)
      have l3 := l.2 (s + 3) (by omega) (by omega)
      have l4 := l.2 (s + 4) (by omega) (by omega)
      have l5 := l.2 (s + 5) (by omega) (by omega)
      have l6 := l.2 (s + 6) (by omega) (by omega)
      rw [z, show ((7 : Int)).toNat = 7 from rfl, b7]; clear l b1 b2 b3 b4 b5 b6 b7 b8; omega
    · skip
      have l0 := l.2 s (by omega) (by omega)
      have l1 := l.2 (s + 1) (by omega) (by omega)
      have l2 := l.2 (s + 2) (by omega) (by omega)
      have l3 := l.2 (s + 3) (by omega) (by omega)
      have l4 := l.2 (s + 4) (by omega) (by omega)
      have l5 := l.2 (s + 5) (by omega) (by omega)
      have l6 := l.2 (s + 6) (by omega) (by omega)
      have l7 := l.2 (s + 7) (by omega) (by omega)
      rw [z, show ((8 : Int)).toNat = 8 from rfl, b8]; clear l b1 b2 b3 b4 b5 b6 b7 b8; omega
  · rw [if_neg (fun z => q z.2)]; exact ⟨fun z => by omega, fun z => by omega⟩
theorem tw_rivet {T : Int → Int} {L p : Int} (k : tkK T L p = 0) : tkW T L p = 491395638644 ↔ (tkE T L p - tkS T L p = 5 ∧ T (tkS T L p) = 114 ∧ T (tkS T L p + 1) = 105 ∧ T (tkS T L p + 2) = 118 ∧ T (tkS T L p + 3) = 101 ∧ T (tkS T L p + 4) = 116) := by
  have l := tw_l k
  unfold tkW
  generalize tkS T L p = s at *
  generalize tkE T L p = e at *
  by_cases q : e - s ≤ 8
  · rw [if_pos ⟨k, q⟩]
    obtain ⟨b1, b2, b3, b4, b5, b6, b7, b8⟩ := bw_8 T s
    rcases (show e - s = 1 ∨ e - s = 2 ∨ e - s = 3 ∨ e - s = 4 ∨ e - s = 5 ∨ e - s = 6 ∨ e - s = 7 ∨ e - s = 8 by omega) with z | z | z | z | z | z | z | z
    · skip
      have l0 := l.2 s (by omega) (by omega)
      rw [z, show ((1 : Int)).toNat = 1 from rfl, b1]; clear l b1 b2 b3 b4 b5 b6 b7 b8; omega
    · skip
      have l0 := l.2 s (by omega) (by omega)
      have l1 := l.2 (s + 1) (by omega) (by omega)
      rw [z, show ((2 : Int)).toNat = 2 from rfl, b2]; clear l b1 b2 b3 b4 b5 b6 b7 b8; omega
    · skip
      have l0 := l.2 s (by omega) (by omega)
      have l1 := l.2 (s + 1) (by omega) (by omega)
      have l2 := l.2 (s + 2) (by omega) (by omega)
      rw [z, show ((3 : Int)).toNat = 3 from rfl, b3]; clear l b1 b2 b3 b4 b5 b6 b7 b8; omega
    · skip
      have l0 := l.2 s (by omega) (by omega)
      have l1 := l.2 (s + 1) (by omega) (by omega)
      have l2 := l.2 (s + 2) (by omega) (by omega)
      have l3 := l.2 (s + 3) (by omega) (by omega)
      rw [z, show ((4 : Int)).toNat = 4 from rfl, b4]; clear l b1 b2 b3 b4 b5 b6 b7 b8; omega
    · skip
      have l0 := l.2 s (by omega) (by omega)
      have l1 := l.2 (s + 1) (by omega) (by omega)
      have l2 := l.2 (s + 2) (by omega) (by omega)
      have l3 := l.2 (s + 3) (by omega) (by omega)
      have l4 := l.2 (s + 4) (by omega) (by omega)
      rw [z, show ((5 : Int)).toNat = 5 from rfl, b5]; clear l b1 b2 b3 b4 b5 b6 b7 b8; omega
    · skip
      have l0 := l.2 s (by omega) (by omega)
      have l1 := l.2 (s + 1) (by omega) (by omega)
      have l2 := l.2 (s + 2) (by omega) (by omega)
      have l3 := l.2 (s + 3) (by omega) (by omega)
      have l4 := l.2 (s + 4) (by omega) (by omega)
      have l5 := l.2 (s + 5) (by omega) (by omega)
      rw [z, show ((6 : Int)).toNat = 6 from rfl, b6]; clear l b1 b2 b3 b4 b5 b6 b7 b8; omega
    · skip
      have l0 := l.2 s (by omega) (by omega)
      have l1 := l.2 (s + 1) (by omega) (by omega)
      have l2 := l.2 (s + 2) (by omega) (by omega)
      have l3 := l.2 (s + 3) (by omega) (by omega)
      have l4 := l.2 (s + 4) (by omega) (by omega)
      have l5 := l.2 (s + 5) (by omega) (by omega)
      have l6 := l.2 (s + 6) (by omega) (by omega)
      rw [z, show ((7 : Int)).toNat = 7 from rfl, b7]; clear l b1 b2 b3 b4 b5 b6 b7 b8; omega
    · skip
      have l0 := l.2 s (by omega) (by omega)
      have l1 := l.2 (s + 1) (by omega) (by omega)
      have l2 := l.2 (s + 2) (by omega) (by omega)
      have l3 := l.2 (s + 3) (by omega) (by omega)
      have l4 := l.2 (s + 4) (by omega) (by omega)
      have l5 := l.2 (s + 5) (by omega) (by omega)
      have l6 := l.2 (s + 6) (by omega) (by omega)
      have l7 := l.2 (s + 7) (by omega) (by omega)
      rw [z, show ((8 : Int)).toNat = 8 from rfl, b8]; clear l b1 b2 b3 b4 b5 b6 b7 b8; omega
  · rw [if_neg (fun z => q z.2)]; exact ⟨fun z => by omega, fun z => by omega⟩
theorem tw_heat {T : Int → Int} {L p : Int} (k : tkK T L p = 0) : tkW T L p = 1751474548 ↔ (tkE T L p - tkS T L p = 4 ∧ T (tkS T L p) = 104 ∧ T (tkS T L p + 1) = 101 ∧ T (tkS T L p + 2) = 97 ∧ T (tkS T L p + 3) = 116) := by
  have l := tw_l k
  unfold tkW
  generalize tkS T L p = s at *
  generalize tkE T L p = e at *
  by_cases q : e - s ≤ 8
  · rw [if_pos ⟨k, q⟩]
    obtain ⟨b1, b2, b3, b4, b5, b6, b7, b8⟩ := bw_8 T s
    rcases (show e - s = 1 ∨ e - s = 2 ∨ e - s = 3 ∨ e - s = 4 ∨ e - s = 5 ∨ e - s = 6 ∨ e - s = 7 ∨ e - s = 8 by omega) with z | z | z | z | z | z | z | z
    · skip
      have l0 := l.2 s (by omega) (by omega)
      rw [z, show ((1 : Int)).toNat = 1 from rfl, b1]; clear l b1 b2 b3 b4 b5 b6 b7 b8; omega
    · skip
      have l0 := l.2 s (by omega) (by omega)
      have l1 := l.2 (s + 1) (by omega) (by omega)
      rw [z, show ((2 : Int)).toNat = 2 from rfl, b2]; clear l b1 b2 b3 b4 b5 b6 b7 b8; omega
    · skip
      have l0 := l.2 s (by omega) (by omega)
      have l1 := l.2 (s + 1) (by omega) (by omega)
      have l2 := l.2 (s + 2) (by omega) (by omega)
      rw [z, show ((3 : Int)).toNat = 3 from rfl, b3]; clear l b1 b2 b3 b4 b5 b6 b7 b8; omega
    · skip
      have l0 := l.2 s (by omega) (by omega)
      have l1 := l.2 (s + 1) (by omega) (by omega)
      have l2 := l.2 (s + 2) (by omega) (by omega)
      have l3 := l.2 (s + 3) (by omega) (by omega)
      rw [z, show ((4 : Int)).toNat = 4 from rfl, b4]; clear l b1 b2 b3 b4 b5 b6 b7 b8; omega
    · skip
      have l0 := l.2 s (by omega) (by omega)
      have l1 := l.2 (s + 1) (by omega) (by omega)
      have l2 := l.2 (s + 2) (by omega) (by omega)
      have l3 := l.2 (s + 3) (by omega) (by omega)
      have l4 := l.2 (s + 4) (by omega) (by omega)
      rw [z, show ((5 : Int)).toNat = 5 from rfl, b5]; clear l b1 b2 b3 b4 b5 b6 b7 b8; omega
    · skip
      have l0 := l.2 s (by omega) (by omega)
      have l1 := l.2 (s + 1) (by omega) (by omega)
      have l2 := l.2 (s + 2) (by omega) (by omega)
      have l3 := l.2 (s + 3) (by omega) (by omega)
      have l4 := l.2 (s + 4) (by omega) (by omega)
      have l5 := l.2 (s + 5) (by omega) (by omega)
      rw [z, show ((6 : Int)).toNat = 6 from rfl, b6]; clear l b1 b2 b3 b4 b5 b6 b7 b8; omega
    · skip
      have l0 := l.2 s (by omega) (by omega)
      have l1 := l.2 (s + 1) (by omega) (by omega)
      have l2 := l.2 (s + 2) (by omega) (by omega)
      have l3 := l.2 (s + 3) (by omega) (by omega)
      have l4 := l.2 (s + 4) (by omega) (by omega)
      have l5 := l.2 (s + 5) (by omega) (by omega)
      have l6 := l.2 (s + 6) (by omega) (by omega)
      rw [z, show ((7 : Int)).toNat = 7 from rfl, b7]; clear l b1 b2 b3 b4 b5 b6 b7 b8; omega
    · skip
      have l0 := l.2 s (by omega) (by omega)
      have l1 := l.2 (s + 1) (by omega) (by omega)
      have l2 := l.2 (s + 2) (by omega) (by omega)
      have l3 := l.2 (s + 3) (by omega) (by omega)
      have l4 := l.2 (s + 4) (by omega) (by omega)
      have l5 := l.2 (s + 5) (by omega) (by omega)
      have l6 := l.2 (s + 6) (by omega) (by omega)
      have l7 := l.2 (s + 7) (by omega) (by omega)
      rw [z, show ((8 : Int)).toNat = 8 from rfl, b8]; clear l b1 b2 b3 b4 b5 b6 b7 b8; omega
  · rw [if_neg (fun z => q z.2)]; exact ⟨fun z => by omega, fun z => by omega⟩
theorem tw_part {T : Int → Int} {L p : Int} (k : tkK T L p = 0) : tkW T L p = 1885434484 ↔ (tkE T L p - tkS T L p = 4 ∧ T (tkS T L p) = 112 ∧ T (tkS T L p + 1) = 97 ∧ T (tkS T L p + 2) = 114 ∧ T (tkS T L p + 3) = 116) := by
  have l := tw_l k
  unfold tkW
  generalize tkS T L p = s at *
  generalize tkE T L p = e at *
  by_cases q : e - s ≤ 8
  · rw [if_pos ⟨k, q⟩]
    obtain ⟨b1, b2, b3, b4, b5, b6, b7, b8⟩ := bw_8 T s
    rcases (show e - s = 1 ∨ e - s = 2 ∨ e - s = 3 ∨ e - s = 4 ∨ e - s = 5 ∨ e - s = 6 ∨ e - s = 7 ∨ e - s = 8 by omega) with z | z | z | z | z | z | z | z
    · skip
      have l0 := l.2 s (by omega) (by omega)
      rw [z, show ((1 : Int)).toNat = 1 from rfl, b1]; clear l b1 b2 b3 b4 b5 b6 b7 b8; omega
    · skip
      have l0 := l.2 s (by omega) (by omega)
      have l1 := l.2 (s + 1) (by omega) (by omega)
      rw [z, show ((2 : Int)).toNat = 2 from rfl, b2]; clear l b1 b2 b3 b4 b5 b6 b7 b8; omega
    · skip
      have l0 := l.2 s (by omega) (by omega)
      have l1 := l.2 (s + 1) (by omega) (by omega)
      have l2 := l.2 (s + 2) (by omega) (by omega)
      rw [z, show ((3 : Int)).toNat = 3 from rfl, b3]; clear l b1 b2 b3 b4 b5 b6 b7 b8; omega
    · skip
      have l0 := l.2 s (by omega) (by omega)
      have l1 := l.2 (s + 1) (by omega) (by omega)
      have l2 := l.2 (s + 2) (by omega) (by omega)
      have l3 := l.2 (s + 3) (by omega) (by omega)
      rw [z, show ((4 : Int)).toNat = 4 from rfl, b4]; clear l b1 b2 b3 b4 b5 b6 b7 b8; omega
    · skip
      have l0 := l.2 s (by omega) (by omega)
      have l1 := l.2 (s + 1) (by omega) (by omega)
      have l2 := l.2 (s + 2) (by omega) (by omega)
      have l3 := l.2 (s + 3) (by omega) (by omega)
      have l4 := l.2 (s + 4) (by omega) (by omega)
      rw [z, show ((5 : Int)).toNat = 5 from rfl, b5]; clear l b1 b2 b3 b4 b5 b6 b7 b8; omega
    · skip
      have l0 := l.2 s (by omega) (by omega)
      have l1 := l.2 (s + 1) (by omega) (by omega)
      have l2 := l.2 (s + 2) (by omega) (by omega)
      have l3 := l.2 (s + 3) (by omega) (by omega)
      have l4 := l.2 (s + 4) (by omega) (by omega)
      have l5 := l.2 (s + 5) (by omega) (by omega)
      rw [z, show ((6 : Int)).toNat = 6 from rfl, b6]; clear l b1 b2 b3 b4 b5 b6 b7 b8; omega
    · skip
      have l0 := l.2 s (by omega) (by omega)
      have l1 := l.2 (s + 1) (by omega) (by omega)
      have l2 := l.2 (s + 2) (by omega) (by omega)
      have l3 := l.2 (s + 3) (by omega) (by omega)
      have l4 := l.2 (s + 4) (by omega) (by omega)
      have l5 := l.2 (s + 5) (by omega) (by omega)
      have l6 := l.2 (s + 6) (by omega) (by omega)
      rw [z, show ((7 : Int)).toNat = 7 from rfl, b7]; clear l b1 b2 b3 b4 b5 b6 b7 b8; omega
    · skip
      have l0 := l.2 s (by omega) (by omega)
      have l1 := l.2 (s + 1) (by omega) (by omega)
      have l2 := l.2 (s + 2) (by omega) (by omega)
      have l3 := l.2 (s + 3) (by omega) (by omega)
      have l4 := l.2 (s + 4) (by omega) (by omega)
      have l5 := l.2 (s + 5) (by omega) (by omega)
      have l6 := l.2 (s + 6) (by omega) (by omega)
      have l7 := l.2 (s + 7) (by omega) (by omega)
      rw [z, show ((8 : Int)).toNat = 8 from rfl, b8]; clear l b1 b2 b3 b4 b5 b6 b7 b8; omega
  · rw [if_neg (fun z => q z.2)]; exact ⟨fun z => by omega, fun z => by omega⟩
theorem tw_cut {T : Int → Int} {L p : Int} (k : tkK T L p = 0) : tkW T L p = 6518132 ↔ (tkE T L p - tkS T L p = 3 ∧ T (tkS T L p) = 99 ∧ T (tkS T L p + 1) = 117 ∧ T (tkS T L p + 2) = 116) := by
  have l := tw_l k
  unfold tkW
  generalize tkS T L p = s at *
  generalize tkE T L p = e at *
  by_cases q : e - s ≤ 8
  · rw [if_pos ⟨k, q⟩]
    obtain ⟨b1, b2, b3, b4, b5, b6, b7, b8⟩ := bw_8 T s
    rcases (show e - s = 1 ∨ e - s = 2 ∨ e - s = 3 ∨ e - s = 4 ∨ e - s = 5 ∨ e - s = 6 ∨ e - s = 7 ∨ e - s = 8 by omega) with z | z | z | z | z | z | z | z
    · skip
      have l0 := l.2 s (by omega) (by omega)
      rw [z, show ((1 : Int)).toNat = 1 from rfl, b1]; clear l b1 b2 b3 b4 b5 b6 b7 b8; omega
    · skip
      have l0 := l.2 s (by omega) (by omega)
      have l1 := l.2 (s + 1) (by omega) (by omega)
      rw [z, show ((2 : Int)).toNat = 2 from rfl, b2]; clear l b1 b2 b3 b4 b5 b6 b7 b8; omega
    · skip
      have l0 := l.2 s (by omega) (by omega)
      have l1 := l.2 (s + 1) (by omega) (by omega)
      have l2 := l.2 (s + 2) (by omega) (by omega)
      rw [z, show ((3 : Int)).toNat = 3 from rfl, b3]; clear l b1 b2 b3 b4 b5 b6 b7 b8; omega
    · skip
      have l0 := l.2 s (by omega) (by omega)
      have l1 := l.2 (s + 1) (by omega) (by omega)
      have l2 := l.2 (s + 2) (by omega) (by omega)
      have l3 := l.2 (s + 3) (by omega) (by omega)
      rw [z, show ((4 : Int)).toNat = 4 from rfl, b4]; clear l b1 b2 b3 b4 b5 b6 b7 b8; omega
    · skip
      have l0 := l.2 s (by omega) (by omega)
      have l1 := l.2 (s + 1) (by omega) (by omega)
      have l2 := l.2 (s + 2) (by omega) (by omega)
      have l3 := l.2 (s + 3) (by omega) (by omega)
      have l4 := l.2 (s + 4) (by omega) (by omega)
      rw [z, show ((5 : Int)).toNat = 5 from rfl, b5]; clear l b1 b2 b3 b4 b5 b6 b7 b8; omega
    · skip
      have l0 := l.2 s (by omega) (by omega)
      have l1 := l.2 (s + 1) (by omega) (by omega)
      have l2 := l.2 (s + 2) (by omega) (by omega)
      have l3 := l.2 (s + 3) (by omega) (by omega)
      have l4 := l.2 (s + 4) (by omega) (by omega)
      have l5 := l.2 (s + 5) (by omega) (by omega)
      rw [z, show ((6 : Int)).toNat = 6 from rfl, b6]; clear l b1 b2 b3 b4 b5 b6 b7 b8; omega
    · skip
      have l0 := l.2 s (by omega) (by omega)
      have l1 := l.2 (s + 1) (by omega) (by omega)
      have l2 := l.2 (s + 2) (by omega) (by omega)
      have l3 := l.2 (s + 3) (by omega) (by omega)
      have l4 := l.2 (s + 4) (by omega) (by omega)
      have l5 := l.2 (s + 5) (by omega) (by omega)
      have l6 := l.2 (s + 6) (by omega) (by omega)
      rw [z, show ((7 : Int)).toNat = 7 from rfl, b7]; clear l b1 b2 b3 b4 b5 b6 b7 b8; omega
    · skip
      have l0 := l.2 s (by omega) (by omega)
      have l1 := l.2 (s + 1) (by omega) (by omega)
      have l2 := l.2 (s + 2) (by omega) (by omega)
      have l3 := l.2 (s + 3) (by omega) (by omega)
      have l4 := l.2 (s + 4) (by omega) (by omega)
      have l5 := l.2 (s + 5) (by omega) (by omega)
      have l6 := l.2 (s + 6) (by omega) (by omega)
      have l7 := l.2 (s + 7) (by omega) (by omega)
      rw [z, show ((8 : Int)).toNat = 8 from rfl, b8]; clear l b1 b2 b3 b4 b5 b6 b7 b8; omega
  · rw [if_neg (fun z => q z.2)]; exact ⟨fun z => by omega, fun z => by omega⟩
theorem tw_grind {T : Int → Int} {L p : Int} (k : tkK T L p = 0) : tkW T L p = 444301143652 ↔ (tkE T L p - tkS T L p = 5 ∧ T (tkS T L p) = 103 ∧ T (tkS T L p + 1) = 114 ∧ T (tkS T L p + 2) = 105 ∧ T (tkS T L p + 3) = 110 ∧ T (tkS T L p + 4) = 100) := by
  have l := tw_l k
  unfold tkW
  generalize tkS T L p = s at *
  generalize tkE T L p = e at *
  by_cases q : e - s ≤ 8
  · rw [if_pos ⟨k, q⟩]
    obtain ⟨b1, b2, b3, b4, b5, b6, b7, b8⟩ := bw_8 T s
    rcases (show e - s = 1 ∨ e - s = 2 ∨ e - s = 3 ∨ e - s = 4 ∨ e - s = 5 ∨ e - s = 6 ∨ e - s = 7 ∨ e - s = 8 by omega) with z | z | z | z | z | z | z | z
    · skip
      have l0 := l.2 s (by omega) (by omega)
      rw [z, show ((1 : Int)).toNat = 1 from rfl, b1]; clear l b1 b2 b3 b4 b5 b6 b7 b8; omega
    · skip
      have l0 := l.2 s (by omega) (by omega)
      have l1 := l.2 (s + 1) (by omega) (by omega)
      rw [z, show ((2 : Int)).toNat = 2 from rfl, b2]; clear l b1 b2 b3 b4 b5 b6 b7 b8; omega
    · skip
      have l0 := l.2 s (by omega) (by omega)
      have l1 := l.2 (s + 1) (by omega) (by omega)
      have l2 := l.2 (s + 2) (by omega) (by omega)
      rw [z, show ((3 : Int)).toNat = 3 from rfl, b3]; clear l b1 b2 b3 b4 b5 b6 b7 b8; omega
    · skip
      have l0 := l.2 s (by omega) (by omega)
      have l1 := l.2 (s + 1) (by omega) (by omega)
      have l2 := l.2 (s + 2) (by omega) (by omega)
      have l3 := l.2 (s + 3) (by omega) (by omega)
      rw [z, show ((4 : Int)).toNat = 4 from rfl, b4]; clear l b1 b2 b3 b4 b5 b6 b7 b8; omega
    · skip
      have l0 := l.2 s (by omega) (by omega)
      have l1 := l.2 (s + 1) (by omega) (by omega)
      have l2 := l.2 (s + 2) (by omega) (by omega)
      have l3 := l.2 (s + 3) (by omega) (by omega)
      have l4 := l.2 (s + 4) (by omega) (by omega)
      rw [z, show ((5 : Int)).toNat = 5 from rfl, b5]; clear l b1 b2 b3 b4 b5 b6 b7 b8; omega
    · skip
      have l0 := l.2 s (by omega) (by omega)
      have l1 := l.2 (s + 1) (by omega) (by omega)
      have l2 := l.2 (s + 2) (by omega) (by omega)
      have l3 := l.2 (s + 3) (by omega) (by omega)
      have l4 := l.2 (s + 4) (by omega) (by omega)
      have l5 := l.2 (s + 5) (by omega) (by omega)
      rw [z, show ((6 : Int)).toNat = 6 from rfl, b6]; clear l b1 b2 b3 b4 b5 b6 b7 b8; omega
    · skip
      have l0 := l.2 s (by omega) (by omega)
      have l1 := l.2 (s + 1) (by omega) (by omega)
      have l2 := l.2 (s + 2) (by omega) (by omega)
      have l3 := l.2 (s + 3) (by omega) (by omega)
      have l4 := l.2 (s + 4) (by omega) (by omega)
      have l5 := l.2 (s + 5) (by omega) (by omega)
      have l6 := l.2 (s + 6) (by omega) (by omega)
      rw [z, show ((7 : Int)).toNat = 7 from rfl, b7]; clear l b1 b2 b3 b4 b5 b6 b7 b8; omega
    · skip
      have l0 := l.2 s (by omega) (by omega)
      have l1 := l.2 (s + 1) (by omega) (by omega)
      have l2 := l.2 (s + 2) (by omega) (by omega)
      have l3 := l.2 (s + 3) (by omega) (by omega)
      have l4 := l.2 (s + 4) (by omega) (by omega)
      have l5 := l.2 (s + 5) (by omega) (by omega)
      have l6 := l.2 (s + 6) (by omega) (by omega)
      have l7 := l.2 (s + 7) (by omega) (by omega)
      rw [z, show ((8 : Int)).toNat = 8 from rfl, b8]; clear l b1 b2 b3 b4 b5 b6 b7 b8; omega
  · rw [if_neg (fun z => q z.2)]; exact ⟨fun z => by omega, fun z => by omega⟩
theorem tw_oil {T : Int → Int} {L p : Int} (k : tkK T L p = 0) : tkW T L p = 7301484 ↔ (tkE T L p - tkS T L p = 3 ∧ T (tkS T L p) = 111 ∧ T (tkS T L p + 1) = 105 ∧ T (tkS T L p + 2) = 108) := by
  have l := tw_l k
  unfold tkW
  generalize tkS T L p = s at *
  generalize tkE T L p = e at *
  by_cases q : e - s ≤ 8
  · rw [if_pos ⟨k, q⟩]
    obtain ⟨b1, b2, b3, b4, b5, b6, b7, b8⟩ := bw_8 T s
    rcases (show e - s = 1 ∨ e - s = 2 ∨ e - s = 3 ∨ e - s = 4 ∨ e - s = 5 ∨ e - s = 6 ∨ e - s = 7 ∨ e - s = 8 by omega) with z | z | z | z | z | z | z | z
    · skip
      have l0 := l.2 s (by omega) (by omega)
      rw [z, show ((1 : Int)).toNat = 1 from rfl, b1]; clear l b1 b2 b3 b4 b5 b6 b7 b8; omega
    · skip
      have l0 := l.2 s (by omega) (by omega)
      have l1 := l.2 (s + 1) (by omega) (by omega)
      rw [z, show ((2 : Int)).toNat = 2 from rfl, b2]; clear l b1 b2 b3 b4 b5 b6 b7 b8; omega
    · skip
      have l0 := l.2 s (by omega) (by omega)
      have l1 := l.2 (s + 1) (by omega) (by omega)
      have l2 := l.2 (s + 2) (by omega) (by omega)
      rw [z, show ((3 : Int)).toNat = 3 from rfl, b3]; clear l b1 b2 b3 b4 b5 b6 b7 b8; omega
    · skip
      have l0 := l.2 s (by omega) (by omega)
      have l1 := l.2 (s + 1) (by omega) (by omega)
      have l2 := l.2 (s + 2) (by omega) (by omega)
      have l3 := l.2 (s + 3) (by omega) (by omega)
      rw [z, show ((4 : Int)).toNat = 4 from rfl, b4]; clear l b1 b2 b3 b4 b5 b6 b7 b8; omega
    · skip
      have l0 := l.2 s (by omega) (by omega)
      have l1 := l.2 (s + 1) (by omega) (by omega)
      have l2 := l.2 (s + 2) (by omega) (by omega)
      have l3 := l.2 (s + 3) (by omega) (by omega)
      have l4 := l.2 (s + 4) (by omega) (by omega)
      rw [z, show ((5 : Int)).toNat = 5 from rfl, b5]; clear l b1 b2 b3 b4 b5 b6 b7 b8; omega
    · skip
      have l0 := l.2 s (by omega) (by omega)
      have l1 := l.2 (s + 1) (by omega) (by omega)
      have l2 := l.2 (s + 2) (by omega) (by omega)
      have l3 := l.2 (s + 3) (by omega) (by omega)
      have l4 := l.2 (s + 4) (by omega) (by omega)
      have l5 := l.2 (s + 5) (by omega) (by omega)
      rw [z, show ((6 : Int)).toNat = 6 from rfl, b6]; clear l b1 b2 b3 b4 b5 b6 b7 b8; omega
    · skip
      have l0 := l.2 s (by omega) (by omega)
      have l1 := l.2 (s + 1) (by omega) (by omega)
      have l2 := l.2 (s + 2) (by omega) (by omega)
      have l3 := l.2 (s + 3) (by omega) (by omega)
      have l4 := l.2 (s + 4) (by omega) (by omega)
      have l5 := l.2 (s + 5) (by omega) (by omega)
      have l6 := l.2 (s + 6) (by omega) (by omega)
      rw [z, show ((7 : Int)).toNat = 7 from rfl, b7]; clear l b1 b2 b3 b4 b5 b6 b7 b8; omega
    · skip
      have l0 := l.2 s (by omega) (by omega)
      have l1 := l.2 (s + 1) (by omega) (by omega)
      have l2 := l.2 (s + 2) (by omega) (by omega)
      have l3 := l.2 (s + 3) (by omega) (by omega)
      have l4 := l.2 (s + 4) (by omega) (by omega)
      have l5 := l.2 (s + 5) (by omega) (by omega)
      have l6 := l.2 (s + 6) (by omega) (by omega)
      have l7 := l.2 (s + 7) (by omega) (by omega)
      rw [z, show ((8 : Int)).toNat = 8 from rfl, b8]; clear l b1 b2 b3 b4 b5 b6 b7 b8; omega
  · rw [if_neg (fun z => q z.2)]; exact ⟨fun z => by omega, fun z => by omega⟩
theorem tw_day {T : Int → Int} {L p : Int} (k : tkK T L p = 0) : tkW T L p = 6578553 ↔ (tkE T L p - tkS T L p = 3 ∧ T (tkS T L p) = 100 ∧ T (tkS T L p + 1) = 97 ∧ T (tkS T L p + 2) = 121) := by
  have l := tw_l k
  unfold tkW
  generalize tkS T L p = s at *
  generalize tkE T L p = e at *
  by_cases q : e - s ≤ 8
  · rw [if_pos ⟨k, q⟩]
    obtain ⟨b1, b2, b3, b4, b5, b6, b7, b8⟩ := bw_8 T s
    rcases (show e - s = 1 ∨ e - s = 2 ∨ e - s = 3 ∨ e - s = 4 ∨ e - s = 5 ∨ e - s = 6 ∨ e - s = 7 ∨ e - s = 8 by omega) with z | z | z | z | z | z | z | z
    · skip
      have l0 := l.2 s (by omega) (by omega)
      rw [z, show ((1 : Int)).toNat = 1 from rfl, b1]; clear l b1 b2 b3 b4 b5 b6 b7 b8; omega
    · skip
      have l0 := l.2 s (by omega) (by omega)
      have l1 := l.2 (s + 1) (by omega) (by omega)
      rw [z, show ((2 : Int)).toNat = 2 from rfl, b2]; clear l b1 b2 b3 b4 b5 b6 b7 b8; omega
    · skip
      have l0 := l.2 s (by omega) (by omega)
      have l1 := l.2 (s + 1) (by omega) (by omega)
      have l2 := l.2 (s + 2) (by omega) (by omega)
      rw [z, show ((3 : Int)).toNat = 3 from rfl, b3]; clear l b1 b2 b3 b4 b5 b6 b7 b8; omega
    · skip
      have l0 := l.2 s (by omega) (by omega)
      have l1 := l.2 (s + 1) (by omega) (by omega)
      have l2 := l.2 (s + 2) (by omega) (by omega)
      have l3 := l.2 (s + 3) (by omega) (by omega)
      rw [z, show ((4 : Int)).toNat = 4 from rfl, b4]; clear l b1 b2 b3 b4 b5 b6 b7 b8; omega
    · skip
      have l0 := l.2 s (by omega) (by omega)
      have l1 := l.2 (s + 1) (by omega) (by omega)
      have l2 := l.2 (s + 2) (by omega) (by omega)
      have l3 := l.2 (s + 3) (by omega) (by omega)
      have l4 := l.2 (s + 4) (by omega) (by omega)
      rw [z, show ((5 : Int)).toNat = 5 from rfl, b5]; clear l b1 b2 b3 b4 b5 b6 b7 b8; omega
    · skip
      have l0 := l.2 s (by omega) (by omega)
      have l1 := l.2 (s + 1) (by omega) (by omega)
      have l2 := l.2 (s + 2) (by omega) (by omega)
      have l3 := l.2 (s + 3) (by omega) (by omega)
      have l4 := l.2 (s + 4) (by omega) (by omega)
      have l5 := l.2 (s + 5) (by omega) (by omega)
      rw [z, show ((6 : Int)).toNat = 6 from rfl, b6]; clear l b1 b2 b3 b4 b5 b6 b7 b8; omega
    · skip
      have l0 := l.2 s (by omega) (by omega)
      have l1 := l.2 (s + 1) (by omega) (by omega)
      have l2 := l.2 (s + 2) (by omega) (by omega)
      have l3 := l.2 (s + 3) (by omega) (by omega)
      have l4 := l.2 (s + 4) (by omega) (by omega)
      have l5 := l.2 (s + 5) (by omega) (by omega)
      have l6 := l.2 (s + 6) (by omega) (by omega)
      rw [z, show ((7 : Int)).toNat = 7 from rfl, b7]; clear l b1 b2 b3 b4 b5 b6 b7 b8; omega
    · skip
      have l0 := l.2 s (by omega) (by omega)
      have l1 := l.2 (s + 1) (by omega) (by omega)
      have l2 := l.2 (s + 2) (by omega) (by omega)
      have l3 := l.2 (s + 3) (by omega) (by omega)
      have l4 := l.2 (s + 4) (by omega) (by omega)
      have l5 := l.2 (s + 5) (by omega) (by omega)
      have l6 := l.2 (s + 6) (by omega) (by omega)
      have l7 := l.2 (s + 7) (by omega) (by omega)
      rw [z, show ((8 : Int)).toNat = 8 from rfl, b8]; clear l b1 b2 b3 b4 b5 b6 b7 b8; omega
  · rw [if_neg (fun z => q z.2)]; exact ⟨fun z => by omega, fun z => by omega⟩
theorem tw_no {T : Int → Int} {L p : Int} (k : tkK T L p = 0) : tkW T L p = 28271 ↔ (tkE T L p - tkS T L p = 2 ∧ T (tkS T L p) = 110 ∧ T (tkS T L p + 1) = 111) := by
  have l := tw_l k
  unfold tkW
  generalize tkS T L p = s at *
  generalize tkE T L p = e at *
  by_cases q : e - s ≤ 8
  · rw [if_pos ⟨k, q⟩]
    obtain ⟨b1, b2, b3, b4, b5, b6, b7, b8⟩ := bw_8 T s
    rcases (show e - s = 1 ∨ e - s = 2 ∨ e - s = 3 ∨ e - s = 4 ∨ e - s = 5 ∨ e - s = 6 ∨ e - s = 7 ∨ e - s = 8 by omega) with z | z | z | z | z | z | z | z
    · skip
      have l0 := l.2 s (by omega) (by omega)
      rw [z, show ((1 : Int)).toNat = 1 from rfl, b1]; clear l b1 b2 b3 b4 b5 b6 b7 b8; omega
    · skip
      have l0 := l.2 s (by omega) (by omega)
      have l1 := l.2 (s + 1) (by omega) (by omega)
      rw [z, show ((2 : Int)).toNat = 2 from rfl, b2]; clear l b1 b2 b3 b4 b5 b6 b7 b8; omega
    · skip
      have l0 := l.2 s (by omega) (by omega)
      have l1 := l.2 (s + 1) (by omega) (by omega)
      have l2 := l.2 (s + 2) (by omega) (by omega)
      rw [z, show ((3 : Int)).toNat = 3 from rfl, b3]; clear l b1 b2 b3 b4 b5 b6 b7 b8; omega
    · skip
      have l0 := l.2 s (by omega) (by omega)
      have l1 := l.2 (s + 1) (by omega) (by omega)
      have l2 := l.2 (s + 2) (by omega) (by omega)
      have l3 := l.2 (s + 3) (by omega) (by omega)
      rw [z, show ((4 : Int)).toNat = 4 from rfl, b4]; clear l b1 b2 b3 b4 b5 b6 b7 b8; omega
    · skip
      have l0 := l.2 s (by omega) (by omega)
      have l1 := l.2 (s + 1) (by omega) (by omega)
      have l2 := l.2 (s + 2) (by omega) (by omega)
      have l3 := l.2 (s + 3) (by omega) (by omega)
      have l4 := l.2 (s + 4) (by omega) (by omega)
      rw [z, show ((5 : Int)).toNat = 5 from rfl, b5]; clear l b1 b2 b3 b4 b5 b6 b7 b8; omega
    · skip
      have l0 := l.2 s (by omega) (by omega)
      have l1 := l.2 (s + 1) (by omega) (by omega)
      have l2 := l.2 (s + 2) (by omega) (by omega)
      have l3 := l.2 (s + 3) (by omega) (by omega)
      have l4 := l.2 (s + 4) (by omega) (by omega)
      have l5 := l.2 (s + 5) (by omega) (by omega)
      rw [z, show ((6 : Int)).toNat = 6 from rfl, b6]; clear l b1 b2 b3 b4 b5 b6 b7 b8; omega
    · skip
      have l0 := l.2 s (by omega) (by omega)
      have l1 := l.2 (s + 1) (by omega) (by omega)
      have l2 := l.2 (s + 2) (by omega) (by omega)
      have l3 := l.2 (s + 3) (by omega) (by omega)
      have l4 := l.2 (s + 4) (by omega) (by omega)
      have l5 := l.2 (s + 5) (by omega) (by omega)
      have l6 := l.2 (s + 6) (by omega) (by omega)
      rw [z, show ((7 : Int)).toNat = 7 from rfl, b7]; clear l b1 b2 b3 b4 b5 b6 b7 b8; omega
    · skip
      have l0 := l.2 s (by omega) (by omega)
      have l1 := l.2 (s + 1) (by omega) (by omega)
      have l2 := l.2 (s + 2) (by omega) (by omega)
      have l3 := l.2 (s + 3) (by omega) (by omega)
      have l4 := l.2 (s + 4) (by omega) (by omega)
      have l5 := l.2 (s + 5) (by omega) (by omega)
      have l6 := l.2 (s + 6) (by omega) (by omega)
      have l7 := l.2 (s + 7) (by omega) (by omega)
      rw [z, show ((8 : Int)).toNat = 8 from rfl, b8]; clear l b1 b2 b3 b4 b5 b6 b7 b8; omega
  · rw [if_neg (fun z => q z.2)]; exact ⟨fun z => by omega, fun z => by omega⟩
theorem tw_long {T : Int → Int} {L p : Int} (k : tkK T L p = 0) : tkW T L p = 1819242087 ↔ (tkE T L p - tkS T L p = 4 ∧ T (tkS T L p) = 108 ∧ T (tkS T L p + 1) = 111 ∧ T (tkS T L p + 2) = 110 ∧ T (tkS T L p + 3) = 103) := by
  have l := tw_l k
  unfold tkW
  generalize tkS T L p = s at *
  generalize tkE T L p = e at *
  by_cases q : e - s ≤ 8
  · rw [if_pos ⟨k, q⟩]
    obtain ⟨b1, b2, b3, b4, b5, b6, b7, b8⟩ := bw_8 T s
    rcases (show e - s = 1 ∨ e - s = 2 ∨ e - s = 3 ∨ e - s = 4 ∨ e - s = 5 ∨ e - s = 6 ∨ e - s = 7 ∨ e - s = 8 by omega) with z | z | z | z | z | z | z | z
    · skip
      have l0 := l.2 s (by omega) (by omega)
      rw [z, show ((1 : Int)).toNat = 1 from rfl, b1]; clear l b1 b2 b3 b4 b5 b6 b7 b8; omega
    · skip
      have l0 := l.2 s (by omega) (by omega)
      have l1 := l.2 (s + 1) (by omega) (by omega)
      rw [z, show ((2 : Int)).toNat = 2 from rfl, b2]; clear l b1 b2 b3 b4 b5 b6 b7 b8; omega
    · skip
      have l0 := l.2 s (by omega) (by omega)
      have l1 := l.2 (s + 1) (by omega) (by omega)
      have l2 := l.2 (s + 2) (by omega) (by omega)
      rw [z, show ((3 : Int)).toNat = 3 from rfl, b3]; clear l b1 b2 b3 b4 b5 b6 b7 b8; omega
    · skip
      have l0 := l.2 s (by omega) (by omega)
      have l1 := l.2 (s + 1) (by omega) (by omega)
      have l2 := l.2 (s + 2) (by omega) (by omega)
      have l3 := l.2 (s + 3) (by omega) (by omega)
      rw [z, show ((4 : Int)).toNat = 4 from rfl, b4]; clear l b1 b2 b3 b4 b5 b6 b7 b8; omega
    · skip
      have l0 := l.2 s (by omega) (by omega)
      have l1 := l.2 (s + 1) (by omega) (by omega)
      have l2 := l.2 (s + 2) (by omega) (by omega)
      have l3 := l.2 (s + 3) (by omega) (by omega)
      have l4 := l.2 (s + 4) (by omega) (by omega)
      rw [z, show ((5 : Int)).toNat = 5 from rfl, b5]; clear l b1 b2 b3 b4 b5 b6 b7 b8; omega
    · skip
      have l0 := l.2 s (by omega) (by omega)
      have l1 := l.2 (s + 1) (by omega) (by omega)
      have l2 := l.2 (s + 2) (by omega) (by omega)
      have l3 := l.2 (s + 3) (by omega) (by omega)
      have l4 := l.2 (s + 4) (by omega) (by omega)
      have l5 := l.2 (s + 5) (by omega) (by omega)
      rw [z, show ((6 : Int)).toNat = 6 from rfl, b6]; clear l b1 b2 b3 b4 b5 b6 b7 b8; omega
    · skip
      have l0 := l.2 s (by omega) (by omega)
      have l1 := l.2 (s + 1) (by omega) (by omega)
      have l2 := l.2 (s + 2) (by omega) (by omega)
      have l3 := l.2 (s + 3) (by omega) (by omega)
      have l4 := l.2 (s + 4) (by omega) (by omega)
      have l5 := l.2 (s + 5) (by omega) (by omega)
      have l6 := l.2 (s + 6) (by omega) (by omega)
      rw [z, show ((7 : Int)).toNat = 7 from rfl, b7]; clear l b1 b2 b3 b4 b5 b6 b7 b8; omega
    · skip
      have l0 := l.2 s (by omega) (by omega)
      have l1 := l.2 (s + 1) (by omega) (by omega)
      have l2 := l.2 (s + 2) (by omega) (by omega)
      have l3 := l.2 (s + 3) (by omega) (by omega)
      have l4 := l.2 (s + 4) (by omega) (by omega)
      have l5 := l.2 (s + 5) (by omega) (by omega)
      have l6 := l.2 (s + 6) (by omega) (by omega)
      have l7 := l.2 (s + 7) (by omega) (by omega)
      rw [z, show ((8 : Int)).toNat = 8 from rfl, b8]; clear l b1 b2 b3 b4 b5 b6 b7 b8; omega
  · rw [if_neg (fun z => q z.2)]; exact ⟨fun z => by omega, fun z => by omega⟩
theorem tw_apart {T : Int → Int} {L p : Int} (k : tkK T L p = 0) : tkW T L p = 418497262196 ↔ (tkE T L p - tkS T L p = 5 ∧ T (tkS T L p) = 97 ∧ T (tkS T L p + 1) = 112 ∧ T (tkS T L p + 2) = 97 ∧ T (tkS T L p + 3) = 114 ∧ T (tkS T L p + 4) = 116) := by
  have l := tw_l k
  unfold tkW
  generalize tkS T L p = s at *
  generalize tkE T L p = e at *
  by_cases q : e - s ≤ 8
  · rw [if_pos ⟨k, q⟩]
    obtain ⟨b1, b2, b3, b4, b5, b6, b7, b8⟩ := bw_8 T s
    rcases (show e - s = 1 ∨ e - s = 2 ∨ e - s = 3 ∨ e - s = 4 ∨ e - s = 5 ∨ e - s = 6 ∨ e - s = 7 ∨ e - s = 8 by omega) with z | z | z | z | z | z | z | z
    · skip
      have l0 := l.2 s (by omega) (by omega)
      rw [z, show ((1 : Int)).toNat = 1 from rfl, b1]; clear l b1 b2 b3 b4 b5 b6 b7 b8; omega
    · skip
      have l0 := l.2 s (by omega) (by omega)
      have l1 := l.2 (s + 1) (by omega) (by omega)
      rw [z, show ((2 : Int)).toNat = 2 from rfl, b2]; clear l b1 b2 b3 b4 b5 b6 b7 b8; omega
    · skip
      have l0 := l.2 s (by omega) (by omega)
      have l1 := l.2 (s + 1) (by omega) (by omega)
      have l2 := l.2 (s + 2) (by omega) (by omega)
      rw [z, show ((3 : Int)).toNat = 3 from rfl, b3]; clear l b1 b2 b3 b4 b5 b6 b7 b8; omega
    · skip
      have l0 := l.2 s (by omega) (by omega)
      have l1 := l.2 (s + 1) (by omega) (by omega)
      have l2 := l.2 (s + 2) (by omega) (by omega)
      have l3 := l.2 (s + 3) (by omega) (by omega)
      rw [z, show ((4 : Int)).toNat = 4 from rfl, b4]; clear l b1 b2 b3 b4 b5 b6 b7 b8; omega
    · skip
      have l0 := l.2 s (by omega) (by omega)
      have l1 := l.2 (s + 1) (by omega) (by omega)
      have l2 := l.2 (s + 2) (by omega) (by omega)
      have l3 := l.2 (s + 3) (by omega) (by omega)
      have l4 := l.2 (s + 4) (by omega) (by omega)
      rw [z, show ((5 : Int)).toNat = 5 from rfl, b5]; clear l b1 b2 b3 b4 b5 b6 b7 b8; omega
    · skip
      have l0 := l.2 s (by omega) (by omega)
      have l1 := l.2 (s + 1) (by omega) (by omega)
      have l2 := l.2 (s + 2) (by omega) (by omega)
      have l3 := l.2 (s + 3) (by omega) (by omega)
      have l4 := l.2 (s + 4) (by omega) (by omega)
      have l5 := l.2 (s + 5) (by omega) (by omega)
      rw [z, show ((6 : Int)).toNat = 6 from rfl, b6]; clear l b1 b2 b3 b4 b5 b6 b7 b8; omega
    · skip
      have l0 := l.2 s (by omega) (by omega)
      have l1 := l.2 (s + 1) (by omega) (by omega)
      have l2 := l.2 (s + 2) (by omega) (by omega)
      have l3 := l.2 (s + 3) (by omega) (by omega)
      have l4 := l.2 (s + 4) (by omega) (by omega)
      have l5 := l.2 (s + 5) (by omega) (by omega)
      have l6 := l.2 (s + 6) (by omega) (by omega)
      rw [z, show ((7 : Int)).toNat = 7 from rfl, b7]; clear l b1 b2 b3 b4 b5 b6 b7 b8; omega
    · skip
      have l0 := l.2 s (by omega) (by omega)
      have l1 := l.2 (s + 1) (by omega) (by omega)
      have l2 := l.2 (s + 2) (by omega) (by omega)
      have l3 := l.2 (s + 3) (by omega) (by omega)
      have l4 := l.2 (s + 4) (by omega) (by omega)
      have l5 := l.2 (s + 5) (by omega) (by omega)
      have l6 := l.2 (s + 6) (by omega) (by omega)
      have l7 := l.2 (s + 7) (by omega) (by omega)
      rw [z, show ((8 : Int)).toNat = 8 from rfl, b8]; clear l b1 b2 b3 b4 b5 b6 b7 b8; omega
  · rw [if_neg (fun z => q z.2)]; exact ⟨fun z => by omega, fun z => by omega⟩
theorem tw_rough {T : Int → Int} {L p : Int} (k : tkK T L p = 0) : tkW T L p = 491496236904 ↔ (tkE T L p - tkS T L p = 5 ∧ T (tkS T L p) = 114 ∧ T (tkS T L p + 1) = 111 ∧ T (tkS T L p + 2) = 117 ∧ T (tkS T L p + 3) = 103 ∧ T (tkS T L p + 4) = 104) := by
  have l := tw_l k
  unfold tkW
  generalize tkS T L p = s at *
  generalize tkE T L p = e at *
  by_cases q : e - s ≤ 8
  · rw [if_pos ⟨k, q⟩]
    obtain ⟨b1, b2, b3, b4, b5, b6, b7, b8⟩ := bw_8 T s
    rcases (show e - s = 1 ∨ e - s = 2 ∨ e - s = 3 ∨ e - s = 4 ∨ e - s = 5 ∨ e - s = 6 ∨ e - s = 7 ∨ e - s = 8 by omega) with z | z | z | z | z | z | z | z
    · skip
      have l0 := l.2 s (by omega) (by omega)
      rw [z, show ((1 : Int)).toNat = 1 from rfl, b1]; clear l b1 b2 b3 b4 b5 b6 b7 b8; omega
    · skip
      have l0 := l.2 s (by omega) (by omega)
      have l1 := l.2 (s + 1) (by omega) (by omega)
      rw [z, show ((2 : Int)).toNat = 2 from rfl, b2]; clear l b1 b2 b3 b4 b5 b6 b7 b8; omega
    · skip
      have l0 := l.2 s (by omega) (by omega)
      have l1 := l.2 (s + 1) (by omega) (by omega)
      have l2 := l.2 (s + 2) (by omega) (by omega)
      rw [z, show ((3 : Int)).toNat = 3 from rfl, b3]; clear l b1 b2 b3 b4 b5 b6 b7 b8; omega
    · skip
      have l0 := l.2 s (by omega) (by omega)
      have l1 := l.2 (s + 1) (by omega) (by omega)
      have l2 := l.2 (s + 2) (by omega) (by omega)
      have l3 := l.2 (s + 3) (by omega) (by omega)
      rw [z, show ((4 : Int)).toNat = 4 from rfl, b4]; clear l b1 b2 b3 b4 b5 b6 b7 b8; omega
    · skip
      have l0 := l.2 s (by omega) (by omega)
      have l1 := l.2 (s + 1) (by omega) (by omega)
      have l2 := l.2 (s + 2) (by omega) (by omega)
      have l3 := l.2 (s + 3) (by omega) (by omega)
      have l4 := l.2 (s + 4) (by omega) (by omega)
      rw [z, show ((5 : Int)).toNat = 5 from rfl, b5]; clear l b1 b2 b3 b4 b5 b6 b7 b8; omega
    · skip
      have l0 := l.2 s (by omega) (by omega)
      have l1 := l.2 (s + 1) (by omega) (by omega)
      have l2 := l.2 (s + 2) (by omega) (by omega)
      have l3 := l.2 (s + 3) (by omega) (by omega)
      have l4 := l.2 (s + 4) (by omega) (by omega)
      have l5 := l.2 (s + 5) (by omega) (by omega)
      rw [z, show ((6 : Int)).toNat = 6 from rfl, b6]; clear l b1 b2 b3 b4 b5 b6 b7 b8; omega
    · skip
      have l0 := l.2 s (by omega) (by omega)
      have l1 := l.2 (s + 1) (by omega) (by omega)
      have l2 := l.2 (s + 2) (by omega) (by omega)
      have l3 := l.2 (s + 3) (by omega) (by omega)
      have l4 := l.2 (s + 4) (by omega) (by omega)
      have l5 := l.2 (s + 5) (by omega) (by omega)
      have l6 := l.2 (s + 6) (by omega) (by omega)
      rw [z, show ((7 : Int)).toNat = 7 from rfl, b7]; clear l b1 b2 b3 b4 b5 b6 b7 b8; omega
    · skip
      have l0 := l.2 s (by omega) (by omega)
      have l1 := l.2 (s + 1) (by omega) (by omega)
      have l2 := l.2 (s + 2) (by omega) (by omega)
      have l3 := l.2 (s + 3) (by omega) (by omega)
      have l4 := l.2 (s + 4) (by omega) (by omega)
      have l5 := l.2 (s + 5) (by omega) (by omega)
      have l6 := l.2 (s + 6) (by omega) (by omega)
      have l7 := l.2 (s + 7) (by omega) (by omega)
      rw [z, show ((8 : Int)).toNat = 8 from rfl, b8]; clear l b1 b2 b3 b4 b5 b6 b7 b8; omega
  · rw [if_neg (fun z => q z.2)]; exact ⟨fun z => by omega, fun z => by omega⟩
theorem tw_left {T : Int → Int} {L p : Int} (k : tkK T L p = 0) : tkW T L p = 1818584692 ↔ (tkE T L p - tkS T L p = 4 ∧ T (tkS T L p) = 108 ∧ T (tkS T L p + 1) = 101 ∧ T (tkS T L p + 2) = 102 ∧ T (tkS T L p + 3) = 116) := by
  have l := tw_l k
  unfold tkW
  generalize tkS T L p = s at *
  generalize tkE T L p = e at *
  by_cases q : e - s ≤ 8
  · rw [if_pos ⟨k, q⟩]
    obtain ⟨b1, b2, b3, b4, b5, b6, b7, b8⟩ := bw_8 T s
    rcases (show e - s = 1 ∨ e - s = 2 ∨ e - s = 3 ∨ e - s = 4 ∨ e - s = 5 ∨ e - s = 6 ∨ e - s = 7 ∨ e - s = 8 by omega) with z | z | z | z | z | z | z | z
    · skip
      have l0 := l.2 s (by omega) (by omega)
      rw [z, show ((1 : Int)).toNat = 1 from rfl, b1]; clear l b1 b2 b3 b4 b5 b6 b7 b8; omega
    · skip
      have l0 := l.2 s (by omega) (by omega)
      have l1 := l.2 (s + 1) (by omega) (by omega)
      rw [z, show ((2 : Int)).toNat = 2 from rfl, b2]; clear l b1 b2 b3 b4 b5 b6 b7 b8; omega
    · skip
      have l0 := l.2 s (by omega) (by omega)
      have l1 := l.2 (s + 1) (by omega) (by omega)
      have l2 := l.2 (s + 2) (by omega) (by omega)
      rw [z, show ((3 : Int)).toNat = 3 from rfl, b3]; clear l b1 b2 b3 b4 b5 b6 b7 b8; omega
    · skip
      have l0 := l.2 s (by omega) (by omega)
      have l1 := l.2 (s + 1) (by omega) (by omega)
      have l2 := l.2 (s + 2) (by omega) (by omega)
      have l3 := l.2 (s + 3) (by omega) (by omega)
      rw [z, show ((4 : Int)).toNat = 4 from rfl, b4]; clear l b1 b2 b3 b4 b5 b6 b7 b8; omega
    · skip
      have l0 := l.2 s (by omega) (by omega)
      have l1 := l.2 (s + 1) (by omega) (by omega)
      have l2 := l.2 (s + 2) (by omega) (by omega)
      have l3 := l.2 (s + 3) (by omega) (by omega)
      have l4 := l.2 (s + 4) (by omega) (by omega)
      rw [z, show ((5 : Int)).toNat = 5 from rfl, b5]; clear l b1 b2 b3 b4 b5 b6 b7 b8; omega
    · skip
      have l0 := l.2 s (by omega) (by omega)
      have l1 := l.2 (s + 1) (by omega) (by omega)
      have l2 := l.2 (s + 2) (by omega) (by omega)
      have l3 := l.2 (s + 3) (by omega) (by omega)
      have l4 := l.2 (s + 4) (by omega) (by omega)
      have l5 := l.2 (s + 5) (by omega) (by omega)
      rw [z, show ((6 : Int)).toNat = 6 from rfl, b6]; clear l b1 b2 b3 b4 b5 b6 b7 b8; omega
    · skip
      have l0 := l.2 s (by omega) (by omega)
      have l1 := l.2 (s + 1) (by omega) (by omega)
      have l2 := l.2 (s + 2) (by omega) (by omega)
      have l3 := l.2 (s + 3) (by omega) (by omega)
      have l4 := l.2 (s + 4) (by omega) (by omega)
      have l5 := l.2 (s + 5) (by omega) (by omega)
      have l6 := l.2 (s + 6) (by omega) (by omega)
      rw [z, show ((7 : Int)).toNat = 7 from rfl, b7]; clear l b1 b2 b3 b4 b5 b6 b7 b8; omega
    · skip
      have l0 := l.2 s (by omega) (by omega)
      have l1 := l.2 (s + 1) (by omega) (by omega)
      have l2 := l.2 (s + 2) (by omega) (by omega)
      have l3 := l.2 (s + 3) (by omega) (by omega)
      have l4 := l.2 (s + 4) (by omega) (by omega)
      have l5 := l.2 (s + 5) (by omega) (by omega)
      have l6 := l.2 (s + 6) (by omega) (by omega)
      have l7 := l.2 (s + 7) (by omega) (by omega)
      rw [z, show ((8 : Int)).toNat = 8 from rfl, b8]; clear l b1 b2 b3 b4 b5 b6 b7 b8; omega
  · rw [if_neg (fun z => q z.2)]; exact ⟨fun z => by omega, fun z => by omega⟩
