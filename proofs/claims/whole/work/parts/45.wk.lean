/-! LOCALS THAT ARE NOT READ: where a method comes to its end without a local's value, it does so with any -/
def leL : mL → mL → Prop
  | [], [] => True
  | a :: r, b :: s => (a = none ∨ a = b) ∧ leL r s
  | _, _ => False
theorem leL_len {L L' : mL} (h : leL L L') : L.length = L'.length := by
  induction L generalizing L' with
  | nil => cases L' with
    | nil => rfl
    | cons b s => exact absurd h (by simp [leL])
  | cons a r ih => cases L' with
    | nil => exact absurd h (by simp [leL])
    | cons b s => simp [ih h.2]
theorem leL_get {L L' : mL} {i : Nat} {v : Value} (h : leL L L') (e : L[i]? = some (some v)) : L'[i]? = some (some v) := by
  induction L generalizing L' i with
  | nil => simp at e
  | cons a r ih => cases L' with
    | nil => exact absurd h (by simp [leL])
    | cons b s => cases i with
      | zero =>
        simp at e ⊢
        rcases h.1 with q | q
        · rw [q] at e; cases e
        · rw [← q]; exact e
      | succ i => simp at e ⊢; exact ih h.2 e
theorem leL_set {L L' : mL} {i : Nat} {a b : Option Value} (h : leL L L') (e : a = none ∨ a = b) : leL (L.set i a) (L'.set i b) := by
  induction L generalizing L' i with
  | nil => cases L' with
    | nil => exact h
    | cons b s => exact absurd h (by simp [leL])
  | cons x r ih => cases L' with
    | nil => exact absurd h (by simp [leL])
    | cons y s => cases i with
      | zero => exact ⟨e, h.2⟩
      | succ i => exact ⟨h.1, ih h.2⟩
theorem leL_setR {L L' : mL} {i : Nat} (h : leL L L') (e : ∀ w, L[i]? ≠ some (some w)) : leL L (L'.set i none) := by
  induction L generalizing L' i with
  | nil => cases L' with
    | nil => exact h
    | cons b s => exact absurd h (by simp [leL])
  | cons x r ih => cases L' with
    | nil => exact absurd h (by simp [leL])
    | cons y s => cases i with
      | zero =>
        refine ⟨Or.inl ?_, h.2⟩
        cases x with
        | none => rfl
        | some w => exact absurd rfl (e w)
      | succ i => exact ⟨h.1, ih h.2 (fun w q => e w (by simpa using q))⟩
theorem leL_kill {L L' : mL} {i : Nat} (h : leL L L') : leL (mKill L i) (mKill L' i) := by
  cases i with
  | zero => exact h
  | succ j =>
    dsimp only [mKill]
    split
    · rename_i w q
      rw [leL_get h q]
      dsimp only
      split
      · exact leL_set h (Or.inl rfl)
      · exact h
    · rename_i q
      split
      · split
        · exact leL_setR h (fun w => q w)
        · exact h
      · exact h
theorem leL_1 {L L' : mL} {i : Nat} {v : Value} (h : leL L L') : leL (mSet1 L i v) (mSet1 L' i v) := leL_set (leL_kill h) (Or.inr rfl)
theorem leL_2 {L L' : mL} {i : Nat} {v : Value} (h : leL L L') : leL (mSet2 L i v) (mSet2 L' i v) := leL_set (leL_set (leL_kill h) (Or.inr rfl)) (Or.inl rfl)
set_option maxHeartbeats 4000000 in
theorem mW1_wk {T : mTb} {ad : mA} {M : mM} {dp : Nat} {lim : Nat × Nat} {d : Nat} {Q : mZ} {X : mX} {ins : Instr} {pc : Nat} {L L' : mL} {st : List Value} {h : mH} {z : Nat × Nat} (hle : leL L L') (hw : mW1 T ad M dp lim (mCal T ad d) Q (fun pc L st h z => ∀ L', leL L L' → X pc L' st h z) ins pc L st h z) : mW1 T ad M dp lim (mCal T ad d) Q X ins pc L' st h z := by
  cases ins with
  | iload i => obtain ⟨x, a, k⟩ := hw; exact ⟨x, leL_get hle a, k _ hle⟩
  | iload_n i => obtain ⟨x, a, k⟩ := hw; exact ⟨x, leL_get hle a, k _ hle⟩
  | lload i => obtain ⟨x, a, k⟩ := hw; exact ⟨x, leL_get hle a, k _ hle⟩
  | lload_n i => obtain ⟨x, a, k⟩ := hw; exact ⟨x, leL_get hle a, k _ hle⟩
  | aload i => obtain ⟨x, a, k⟩ := hw; exact ⟨x, leL_get hle a, k _ hle⟩
  | aload_n i => obtain ⟨x, a, k⟩ := hw; exact ⟨x, leL_get hle a, k _ hle⟩
  | istore i => obtain ⟨x, r, a, b, k⟩ := hw; exact ⟨x, r, a, leL_len hle ▸ b, k _ (leL_1 hle)⟩
  | istore_n i => obtain ⟨x, r, a, b, k⟩ := hw; exact ⟨x, r, a, leL_len hle ▸ b, k _ (leL_1 hle)⟩
  | astore i => obtain ⟨x, r, a, b, k⟩ := hw; exact ⟨x, r, a, leL_len hle ▸ b, k _ (leL_1 hle)⟩
  | astore_n i => obtain ⟨x, r, a, b, k⟩ := hw; exact ⟨x, r, a, leL_len hle ▸ b, k _ (leL_1 hle)⟩
  | lstore i => obtain ⟨x, r, a, b, k⟩ := hw; exact ⟨x, r, a, leL_len hle ▸ b, k _ (leL_2 hle)⟩
  | lstore_n i => obtain ⟨x, r, a, b, k⟩ := hw; exact ⟨x, r, a, leL_len hle ▸ b, k _ (leL_2 hle)⟩
  | iinc i n => obtain ⟨x, a, k⟩ := hw; exact ⟨x, leL_get hle a, k _ (leL_1 hle)⟩
  | ldc i =>
    rcases hw with ⟨x, a, k⟩ | ⟨x, a, k⟩
    · exact Or.inl ⟨x, a, k _ hle⟩
    · exact Or.inr ⟨x, a, k _ hle⟩
  | ifCond c off => obtain ⟨x, r, t, a, b, k1, k2⟩ := hw; exact ⟨x, r, t, a, b, fun q => k1 q _ hle, fun q => k2 q _ hle⟩
  | if_icmp c off => obtain ⟨x, y, r, t, a, b, k1, k2⟩ := hw; exact ⟨x, y, r, t, a, b, fun q => k1 q _ hle, fun q => k2 q _ hle⟩
  | ifnull off => obtain ⟨x, r, t, a, b, k1, k2⟩ := hw; exact ⟨x, r, t, a, b, fun q => k1 q _ hle, fun q => k2 q _ hle⟩
  | ifnonnull off => obtain ⟨x, r, t, a, b, k1, k2⟩ := hw; exact ⟨x, r, t, a, b, fun q => k1 q _ hle, fun q => k2 q _ hle⟩
  | putfield i => obtain ⟨v, a, r, c, k, q1, q2, q3, q4, q5, q6, q7, q8⟩ := hw; exact ⟨v, a, r, c, k, q1, q2, q3, q4, q5, q6, q7, q8 _ hle⟩
  | arraylength =>
    rcases hw with ⟨a, r, q1, q2, k⟩ | ⟨j, r, q1, q2, k⟩
    · exact Or.inl ⟨a, r, q1, q2, k _ hle⟩
    · exact Or.inr ⟨j, r, q1, q2, k _ hle⟩
  | iaload =>
    rcases hw with ⟨i, a, r, q1, q2, q3, k⟩ | ⟨i, j, r, q1, q2, q3, k⟩
    · exact Or.inl ⟨i, a, r, q1, q2, q3, k _ hle⟩
    · exact Or.inr ⟨i, j, r, q1, q2, q3, k _ hle⟩
  | aaload => obtain ⟨i, a, r, q1, q2, q3, q4, k⟩ := hw; exact ⟨i, a, r, q1, q2, q3, q4, k _ hle⟩
  | baload => obtain ⟨i, a, r, q1, q2, q3, k⟩ := hw; exact ⟨i, a, r, q1, q2, q3, k _ hle⟩
  | laload => obtain ⟨i, a, r, q1, q2, q3, k⟩ := hw; exact ⟨i, a, r, q1, q2, q3, k _ hle⟩
  | iastore => obtain ⟨x, i, a, r, q1, q2, q3, k⟩ := hw; exact ⟨x, i, a, r, q1, q2, q3, k _ hle⟩
  | bastore => obtain ⟨x, i, a, r, q1, q2, q3, k⟩ := hw; exact ⟨x, i, a, r, q1, q2, q3, k _ hle⟩
  | lastore => obtain ⟨x, i, a, r, q1, q2, q3, k⟩ := hw; exact ⟨x, i, a, r, q1, q2, q3, k _ hle⟩
  | aastore => obtain ⟨x, i, a, r, q1, q2, q3, q4, q5, q6, k⟩ := hw; exact ⟨x, i, a, r, q1, q2, q3, q4, q5, q6, k _ hle⟩
  | tableswitch _ _ _ _ => obtain ⟨x, r, t, q1, q2, q3, k⟩ := hw; exact ⟨x, r, t, q1, q2, q3, k _ hle⟩
  | lookupswitch _ _ => obtain ⟨x, r, t, q1, q2, q3, k⟩ := hw; exact ⟨x, r, t, q1, q2, q3, k _ hle⟩
  | new i => obtain ⟨c, q1, q2, q3, k⟩ := hw; exact ⟨c, q1, q2, q3, k _ hle⟩
  | newarray t => obtain ⟨n, r, kd, q1, q2, q3, q4, q5, q6, k⟩ := hw; exact ⟨n, r, kd, q1, q2, q3, q4, q5, q6, k _ hle⟩
  | anewarray t => obtain ⟨n, r, kd, q1, q2, q3, q4, q5, q6, k⟩ := hw; exact ⟨n, r, kd, q1, q2, q3, q4, q5, q6, k _ hle⟩
  | getfield i => obtain ⟨a, r, c, k, q1, q2, q3, q4⟩ := hw; exact ⟨a, r, c, k, q1, q2, q3, q4 _ hle⟩
  | goto off => obtain ⟨t, q1, k⟩ := hw; exact ⟨t, q1, k _ hle⟩
  | invokevirtual i =>
    rcases hw with ⟨N, A, a, r, mc, ms, q1, q2, q3, q4, q5, q6, q7, q8, k⟩ | ⟨N, j, r, q1, q2, q3, q4, q5, k⟩ | ⟨N, j, x, r, q1, q2, q3, q4, q5, q6, k⟩
    · exact Or.inl ⟨N, A, a, r, mc, ms, q1, q2, q3, q4, q5, q6, q7, q8, mCal_mono (fun v h' kk => kk _ hle) k⟩
    · exact Or.inr (Or.inl ⟨N, j, r, q1, q2, q3, q4, q5, k _ hle⟩)
    · exact Or.inr (Or.inr ⟨N, j, x, r, q1, q2, q3, q4, q5, q6, k _ hle⟩)
  | invokestatic i =>
    rcases hw with ⟨N, A, r, mc, ms, q1, q2, q3, q4, q5, q6, k⟩ | ⟨N, n, dp, sp, a, a0, r, q1, q2, q3, q4, q5, q6, q7, q8, q9, q10, q11, k⟩ | ⟨N, x, y, r, q1, q2, q3, k⟩ | ⟨N, x, y, r, q1, q2, q3, k⟩ | ⟨N, x, r, q1, q2, q3, k⟩ | ⟨N, x, r, q1, q2, q3, k⟩ | ⟨N, x, y, r, q1, q2, q3, k⟩
    · exact Or.inl ⟨N, A, r, mc, ms, q1, q2, q3, q4, q5, q6, mCal_mono (fun v h' kk => kk _ hle) k⟩
    · exact Or.inr (Or.inl ⟨N, n, dp, sp, a, a0, r, q1, q2, q3, q4, q5, q6, q7, q8, q9, q10, q11, k _ hle⟩)
    · exact Or.inr (Or.inr (Or.inl ⟨N, x, y, r, q1, q2, q3, k _ hle⟩))
    · exact Or.inr (Or.inr (Or.inr (Or.inl ⟨N, x, y, r, q1, q2, q3, k _ hle⟩)))
    · exact Or.inr (Or.inr (Or.inr (Or.inr (Or.inl ⟨N, x, r, q1, q2, q3, k _ hle⟩))))
    · exact Or.inr (Or.inr (Or.inr (Or.inr (Or.inr (Or.inl ⟨N, x, r, q1, q2, q3, k _ hle⟩)))))
    · exact Or.inr (Or.inr (Or.inr (Or.inr (Or.inr (Or.inr ⟨N, x, y, r, q1, q2, q3, k _ hle⟩)))))
  | invokespecial i =>
    rcases hw with ⟨N, A, a, r, mc, ms, q1, q2, q3, q4, q5, q6, k⟩ | ⟨N, a, r, q1, q2, q3, k⟩
    · exact Or.inl ⟨N, A, a, r, mc, ms, q1, q2, q3, q4, q5, q6, mCal_mono (fun v h' kk => kk _ hle) k⟩
    · exact Or.inr ⟨N, a, r, q1, q2, q3, k _ hle⟩
  | ireturn => exact hw
  | lreturn => exact hw
  | areturn => exact hw
  | return_ => exact hw
  | _ =>
    first
      | exact hw _ hle
      | exact hw
      | (obtain ⟨x, q1, k⟩ := hw; exact ⟨x, q1, k _ hle⟩)
      | (obtain ⟨x, r, q1, k⟩ := hw; exact ⟨x, r, q1, k _ hle⟩)
      | (obtain ⟨x, r, q1, q2, k⟩ := hw; exact ⟨x, r, q1, q2, k _ hle⟩)
      | (obtain ⟨x, y, r, q1, k⟩ := hw; exact ⟨x, y, r, q1, k _ hle⟩)
      | (obtain ⟨x, y, r, q1, q2, k⟩ := hw; exact ⟨x, y, r, q1, q2, k _ hle⟩)
      | (obtain ⟨x, y, r, q1, q2, q3, k⟩ := hw; exact ⟨x, y, r, q1, q2, q3, k _ hle⟩)
theorem mEv_wk {T : mTb} {ad : mA} {M : mM} {dp : Nat} {lim : Nat × Nat} {d : Nat} {Q : mZ} {pc : Nat} {L L' : mL} {st : List Value} {h : mH} {z : Nat × Nat} (hle : leL L L') (k : mEv T ad M dp lim (mCal T ad d) Q pc L st h z) : mEv T ad M dp lim (mCal T ad d) Q pc L' st h z := by
  intro X hX
  refine k (fun pc L st h z => ∀ L', leL L L' → X pc L' st h z) (fun pc L st h z hh L' hle => ?_) L' hle
  obtain ⟨ins, len, hd, hl, hw⟩ := hh
  exact hX pc L' st h z ⟨ins, len, hd, hl, mW1_wk hle hw⟩
