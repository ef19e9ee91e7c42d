/-! the abstract heap as a world of the kit -/
theorem mwl_len (cA : Nat → ClassId) (B : Nat) (h : mH) : (mwl cA B h).length = mE h - B := by simp [mwl]
theorem mwl_at {cA : Nat → ClassId} {B : Nat} {h : mH} {i : Nat} (hi : i < mE h - B) : (mwl cA B h)[i]? = some (B + i, mce cA h (B + i)) := by
  simp [mwl, hi]
theorem mwl_get {cA : Nat → ClassId} {B a : Nat} {h : mH} (h1 : B ≤ a) (h2 : a < mE h) : (mwl cA B h)[a - B]? = some (a, mce cA h a) := by
  have e : B + (a - B) = a := by omega
  rw [mwl_at (by omega), e]
theorem mwl_inv {cA : Nat → ClassId} {B i : Nat} {h : mH} {q : Nat × va_E} (hq : (mwl cA B h)[i]? = some q) : i < mE h - B ∧ q = (B + i, mce cA h (B + i)) := by
  have hi : i < mE h - B := by rw [← mwl_len cA B h]; exact (List.getElem?_eq_some_iff.mp hq).1
  rw [mwl_at hi] at hq
  exact ⟨hi, (Option.some.inj hq).symm⟩
theorem mwl_set {cA : Nat → ClassId} {B a : Nat} {h h' : mH} (h1 : B ≤ a) (h2 : a < mE h) (hE : mE h' = mE h) (ho : ∀ b, b ≠ a → mce cA h' b = mce cA h b) : (mwl cA B h).set (a - B) (a, mce cA h' a) = mwl cA B h' := by
  apply List.ext_getElem?
  intro i
  by_cases hi : i < mE h - B
  · rw [mwl_at (h := h') (by rw [hE]; exact hi)]
    by_cases he : i = a - B
    · subst he
      rw [List.getElem?_set_self (by rw [mwl_len]; exact hi), show B + (a - B) = a by omega]
    · rw [List.getElem?_set_ne (fun q => he q.symm), mwl_at hi, ho _ (by omega)]
  · rw [List.getElem?_eq_none (by rw [List.length_set, mwl_len]; omega), List.getElem?_eq_none (by rw [mwl_len, hE]; omega)]
theorem mwl_push {cA : Nat → ClassId} {B : Nat} {h h' : mH} (h1 : B ≤ mE h) (hE : mE h' = mE h + 1) (ho : ∀ b, b < mE h → mce cA h' b = mce cA h b) : mwl cA B h ++ [(mE h, mce cA h' (mE h))] = mwl cA B h' := by
  apply List.ext_getElem?
  intro i
  by_cases hi : i < mE h - B
  · rw [List.getElem?_append_left (by rw [mwl_len]; exact hi), mwl_at hi, mwl_at (h := h') (by omega), ho _ (by omega)]
  · by_cases he : i = mE h - B
    · subst he
      rw [List.getElem?_append_right (by rw [mwl_len]; omega), mwl_len, Nat.sub_self, mwl_at (h := h') (by omega), show B + (mE h - B) = mE h by omega]
      rfl
    · rw [List.getElem?_eq_none (by simp [mwl_len]; omega), List.getElem?_eq_none (by rw [mwl_len]; omega)]
theorem mwl_D (cA : Nat → ClassId) (B : Nat) (h : mH) : va_D (fun q => B ≤ q) (mwl cA B h) := by
  refine ⟨fun i j p q hp hq e => ?_, fun k q hq => ?_⟩
  · obtain ⟨-, rfl⟩ := mwl_inv hp
    obtain ⟨-, rfl⟩ := mwl_inv hq
    have e2 : B + i = B + j := e
    omega
  · obtain ⟨-, rfl⟩ := mwl_inv hq
    exact Nat.le_add_right B k
theorem mtys_get (cA : Nat → ClassId) {k : Nat} (h1 : 13 ≤ k) (h2 : k < 21) : (mtys cA)[k - 13]? = some (cA k, mat k) := by
  have e : 13 + (k - 13) = k := by omega
  simp only [mtys, List.getElem?_map]
  rw [List.getElem?_range (by omega)]
  simp only [Option.map_some, e]
theorem classes_get {c : Nat} (hc : c < 13) : classes[c]? = some (mCn c, mTT c, mnf c) := by
  match c, hc with
  | 0, _ => rfl
  | 1, _ => rfl
  | 2, _ => rfl
  | 3, _ => rfl
  | 4, _ => rfl
  | 5, _ => rfl
  | 6, _ => rfl
  | 7, _ => rfl
  | 8, _ => rfl
  | 9, _ => rfl
  | 10, _ => rfl
  | 11, _ => rfl
  | 12, _ => rfl
/-- objects and arrays lie in the world -/
def mG (B : Nat) (h : mH) : Prop := B ≤ mE h ∧ ∀ a, (mS h a).1 < 21 → B ≤ a ∧ a < mE h
/-- which words of the tables stay true: those of links through a nest -/
def mNw : List Cond := [.methodLinkNest RX11 22 yX6_init RX11, .methodLinkNest RX11 29 yX7_init RX11, .methodLinkNest RX11 36 yX5_init RX11, .methodLinkNest RX11 43 yX4_init RX11, .methodLinkNest RX11 50 yX9_init RX11, .methodLinkNest RX11 57 yX3_init RX11, .methodLinkNest RX5 11 yX2_init RX11, .methodLinkNest RX6 11 yX2_init RX11, .methodLinkNest RX6 20 yX10_init RX11, .methodLinkNest RX6 27 yX1_init RX11, .methodLinkNest RX7 11 yX2_init RX11, .methodLinkNest RX8 47 yX2_init RX11, .methodLinkNest RX8 48 yX10_init RX11, .methodLinkNest RX8 49 yX1_init RX11]
/-- a text at a: n bytes -/
def mStr (B n : Nat) (f : Nat → Int32) (a : Nat) (U : State) (H : Heap) : Prop := n < 2 ^ 31 ∧ ∃ v, va_O "java/lang/String" a (fun q => B ≤ q) U H ∧ va_OF "java/lang/String" "value" "[B" (.ref v) a (fun q => B ≤ q) U H ∧ va_OF "java/lang/String" "coder" "B" (.int 0) a (fun q => B ≤ q) U H ∧ va_T .byte v n (fun k => .int (f k)) (fun q => B ≤ q) U H
theorem mStr.moved {B n : Nat} {f : Nat → Int32} {a : Nat} {u U : State} {H : Heap} (hvm : u.vm.Alike U.vm) (q : mStr B n f a u H) : mStr B n f a U H := by
  obtain ⟨hn, v, h1, h2, h3, h4⟩ := q
  exact ⟨hn, v, va_O.moved hvm h1, va_OF.moved hvm h2, va_OF.moved hvm h3, va_T.moved hvm h4⟩
theorem mStr.kept {B n : Nat} {f : Nat → Int32} {a : Nat} {U : State} {H H1 : Heap} (q : mStr B n f a U H) (hq : ∀ a : Nat, a < H.size → ¬ B ≤ a → H1[a]? = H[a]?) : mStr B n f a U H1 := by
  obtain ⟨hn, v, h1, h2, h3, h4⟩ := q
  exact ⟨hn, v, va_O.kept h1 hq, va_OF.kept h2 hq, va_OF.kept h3 hq, va_T.kept h4 hq⟩
/-- the names of the static arrays; the entries and words of the texts -/
def mSn (j : Nat) : String := match j with
  | 0 => "BLADE_LEAST"
  | 1 => "BLADE_MOST"
  | 2 => "CLOTH_LEAST"
  | 3 => "CLOTH_MOST"
  | _ => "CLUE_MOST"
def mSt (j : Nat) : Nat × String := match j with
  | 5 => (121, "down")
  | 6 => (131, "up")
  | 7 => (133, "cloth")
  | 8 => (138, "rivet")
  | 9 => (193, "heat")
  | 10 => (195, "part")
  | 11 => (197, "cut")
  | 12 => (199, "grind")
  | 13 => (201, "oil")
  | 14 => (203, "day")
  | 15 => (211, "no")
  | 16 => (219, "long")
  | 17 => (221, "apart")
  | 18 => (223, "rough")
  | _ => (225, "left")
def mO2 (ad : mA) (B : Nat) (U : State) (H : Heap) : Prop := (∀ j, j < 5 → va_Z RX6 (mSn j) "[I" (.ref (ad.1 j)) (fun q => B ≤ q) U H) ∧ (∀ j, 5 ≤ j → j < 20 → vk_R RX6 (mSt j).1 (mSt j).2 (ad.1 j) U) ∧ (∀ w ∈ mNw, va_Nw w U) ∧ (∀ k, 17 ≤ k → k < 21 → ∃ C, mat k = .object C ∧ va_AO C U) ∧ va_Z "java/lang/String" "COMPACT_STRINGS" "Z" (.int 1) (fun q => B ≤ q) U H ∧ (∀ j, mOj j → va_T .int (ad.1 j) (ad.2.1 j) (fun k => .int (ad.2.2 j k)) (fun q => B ≤ q) U H) ∧ (∀ j, 5 ≤ j → j < 20 → mStr B (ad.2.1 j) (ad.2.2 j) (ad.1 j) U H) ∧ va_Zq "jdk/internal/util/Preconditions" "SIOOBE_FORMATTER" "Ljava/util/function/BiFunction;" (fun q => B ≤ q) U H
theorem mO2.to {ad : mA} {B : Nat} {s U : State} {H H1 : Heap} (hW : s.WarmedH U.vm) (hq : ∀ a : Nat, a < H.size → ¬ B ≤ a → H1[a]? = H[a]?) (q : mO2 ad B s H) : mO2 ad B U H1 := by
  have hvm : s.vm.Alike U.vm := hW.alike
  refine ⟨fun j hj => va_Z.kept (va_Z.moved hvm (q.1 j hj)) hq, fun j h1 h2 => vk_R.warm hW (q.2.1 j h1 h2), fun w hw => ?_, fun k h1 h2 => ?_, va_Z.kept (va_Z.moved hvm q.2.2.2.2.1) hq, fun j hj => va_T.kept (va_T.moved hvm (q.2.2.2.2.2.1 j hj)) hq, fun j h1 h2 => mStr.kept (mStr.moved hvm (q.2.2.2.2.2.2.1 j h1 h2)) hq, va_Zq.kept (va_Zq.moved hvm q.2.2.2.2.2.2.2) hq⟩
  · have h := q.2.2.1 w hw
    simp only [mNw, List.mem_cons, List.not_mem_nil, or_false] at hw
    rcases hw with rfl | rfl | rfl | rfl | rfl | rfl | rfl | rfl | rfl | rfl | rfl | rfl | rfl | rfl <;> exact va_Nw.warmM hW h
  · obtain ⟨C, e, hC⟩ := q.2.2.2.1 k h1 h2
    exact ⟨C, e, va_AO.moved hvm hC⟩
