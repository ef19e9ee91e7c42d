/-! HIRE: the state stays sound -/
/-- the three things that a bid does -/
theorem wfH_l {g r t w : Int → Int} {l : Int} (W : wfH g r t w l) {d : Int} (hd : d < 6) : wfH g r t w (orZ l (b1 d)) := ⟨W.1, W.2.1, W.2.2.1, or_b W.2.2.2.2 hd⟩
def hTk (r : Int → Int) (d u : Int) : Int → Int := setG r d u
def hRs (r : Int → Int) (o d u : Int) : Int → Int := setG (setG r o 6) d u
theorem wfH_t {g r t w : Int → Int} {l : Int} (W : wfH g r t w l) (n : nd g ≤ 6 ∧ nu g ≤ 6) {d u : Int} (hd : 0 ≤ d ∧ d < nd g) (hu : 0 ≤ u ∧ u < nu g) (hr : r d = 6) (ht : t u = -1) : wfH g (setG r d u) (setG t u d) w l := by
  refine ⟨fun i a c => ?_, fun i a c => ?_, W.2.2⟩
  · unfold setG
    by_cases q : i = d
    · rw [if_pos q, if_pos rfl]; omega
    · rw [if_neg q]
      rcases W.1 i a c with z | z
      · exact Or.inl z
      · have : r i ≠ u := fun e => by rw [e] at z; omega
        rw [if_neg this]; exact Or.inr z
  · unfold setG
    by_cases q : i = u
    · rw [if_pos q, if_pos rfl]; omega
    · rw [if_neg q]
      rcases W.2.1 i a c with z | z
      · exact Or.inl z
      · have : t i ≠ d := fun e => by rw [e] at z; omega
        rw [if_neg this]; exact Or.inr z
theorem wfH_r {g r t w : Int → Int} {l : Int} (W : wfH g r t w l) (n : nd g ≤ 6 ∧ nu g ≤ 6) {d u : Int} (hd : 0 ≤ d ∧ d < nd g) (hu : 0 ≤ u ∧ u < nu g) (hr : r d = 6) (ht : t u ≠ -1) (hw : w u ≤ 30) : wfH g (setG (setG r (t u) 6) d u) (setG t u d) (setG w u (w u + 1)) l := by
  have zt := W.2.1 u hu.1 (by omega)
  have od : t u ≠ d := fun e => by
    rcases zt with z | z
    · exact ht z
    · rw [e] at z; omega
  refine ⟨fun i a c => ?_, fun i a c => ?_, fun i a c => ?_, W.2.2.2⟩
  · unfold setG
    by_cases q : i = d
    · rw [if_pos q, if_pos rfl]; omega
    · rw [if_neg q]
      by_cases q2 : i = t u
      · rw [if_pos q2]; exact Or.inl rfl
      · rw [if_neg q2]
        rcases W.1 i a c with z | z
        · exact Or.inl z
        · have : r i ≠ u := fun e => by rw [e] at z; omega
          rw [if_neg this]; exact Or.inr z
  · unfold setG
    by_cases q : i = u
    · rw [if_pos q, if_pos rfl]; omega
    · rw [if_neg q]
      rcases W.2.1 i a c with z | z
      · exact Or.inl z
      · have e1 : t i ≠ d := fun e => by rw [e] at z; omega
        have e2 : t i ≠ t u := fun e => by
          rw [e] at z
          rcases zt with y | y <;> omega
        rw [if_neg e1, if_neg e2]; exact Or.inr z
  · unfold setG
    have := W.2.2.1 i a c
    by_cases q : i = u
    · rw [if_pos q]; subst q; omega
    · rw [if_neg q]; exact this
