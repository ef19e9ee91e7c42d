/-! what the tables must say -/
def mGM (N : mM) : Prop := (mMn N).cls = mCn (mMo N) ∧ plainName (mMn N).cls = true ∧ Cond.code (mMn N) (mMc N) (mMl N) (mMr N) ∈ mTB ∧ Cond.initialized (mCn (mMo N)) ∈ mTB ∧ ((mMn N).cls ≠ "java/lang/invoke/MethodHandle" ∧ (mMn N).cls ≠ "java/lang/invoke/VarHandle") ∧ (parseMethodDescriptor (mMn N).desc).map (fun d => d.parameters.length) = some (mMp N) ∧ mMl N ≤ 70
def mGT (T : mTb) : Prop :=
  (∀ o i c k, tFld T o i = some (c, k) → c < 13 ∧ k < mnf c ∧ Cond.fieldLink (mCn o) i (mTT c k).1 (mTT c k).2.1 (mTT c k).2.2.1 ∈ mTB) ∧
  (∀ o i x, tLdc T o i = some (.inl x) → Cond.constant (mCn o) i x ∈ mTB) ∧
  (∀ o i j, tLdc T o i = some (.inr j) → mCn o = RX6 ∧ 5 ≤ j ∧ j < 20 ∧ (mSt j).1 = i) ∧
  (∀ o i x, tLdl T o i = some x → Cond.constantLong (mCn o) i x ∈ mTB) ∧
  (∀ o i c, tCls T o i = some c → c < 13 ∧ Cond.classLink (mCn o) i (mCn c) ∈ mTB ∧ Cond.instantiable (mCn c) (mnf c) ∈ mTB ∧ Cond.initialized (mCn c) ∈ mTB) ∧
  (∀ o i k, tAnw T o i = some k → 17 ≤ k ∧ k < 21 ∧ ∃ C, mat k = .object C ∧ Cond.classLink (mCn o) i C ∈ mTB) ∧
  (∀ o i j, tSta T o i = some j → j < 5 ∧ Cond.fieldLink (mCn o) i RX6 (mSn j) "[I" ∈ mTB) ∧
  (∀ o i N, tMet T o i = some (0, N) → mGM N ∧ Cond.methodLink (mCn o) i (mMn N) ∈ mTB ∧ Cond.instanceMethod (mMn N) ∈ mTB ∧ Cond.selects (mCn (mMo N)) (mMn N) (mMn N) ∈ mTB) ∧
  (∀ o i N, tMet T o i = some (1, N) → mGM N ∧ Cond.methodLink (mCn o) i (mMn N) ∈ mTB ∧ Cond.static (mMn N) ∈ mTB) ∧
  (∀ o i N, tMet T o i = some (2, N) → mGM N ∧ mMr N = none ∧ (mMn N).name = "<init>" ∧ Cond.methodLink (mCn o) i (mMn N) ∈ mTB ∧ Cond.instanceMethod (mMn N) ∈ mTB) ∧
  (∀ o i N, tMet T o i = some (3, N) → mGM N ∧ mMr N = none ∧ (mMn N).name = "<init>" ∧ Cond.methodLinkNest (mCn o) i (mMn N) RX11 ∈ mNw ∧ Cond.instanceMethod (mMn N) ∈ mTB) ∧
  (∀ o i N, tMet T o i = some (4, N) → Cond.methodLink (mCn o) i Lib.objectInit ∈ mTB) ∧
  (∀ o i N, tMet T o i = some (5, N) → Cond.methodLink (mCn o) i arraycopyName ∈ mTB) ∧
  (∀ o i N, tMet T o i = some (10, N) → Cond.methodLink (mCn o) i Lib.Math.max.name ∈ mTB) ∧
  (∀ o i N, tMet T o i = some (11, N) → Cond.methodLink (mCn o) i Lib.Math.min.name ∈ mTB) ∧
  (∀ o i N, tMet T o i = some (12, N) → Cond.methodLink (mCn o) i Lib.Math.abs.name ∈ mTB) ∧
  (∀ o i N, tMet T o i = some (13, N) → Cond.methodLink (mCn o) i Lib.MathLoose.abs_long.x ∈ mTB) ∧
  (∀ o i N, tMet T o i = some (14, N) → Cond.methodLink (mCn o) i Lib.MathLoose.max_long.x ∈ mTB)
/-- words that stand in the tables whatever the code -/
def mGW : Prop := (∀ c, c < 13 → ∀ w ∈ u_ws (mCn c) (mTT c) (mnf c), w ∈ mTB) ∧ (Cond.instanceMethod Lib.objectInit ∈ mTB ∧ Cond.code Lib.objectInit ⟨#[0xb1]⟩ 1 none ∈ mTB) ∧ (Cond.native arraycopyName ∈ mTB ∧ Cond.static arraycopyName ∈ mTB ∧ Cond.initialized "java/lang/System" ∈ mTB) ∧ (Cond.arrayClass .byte ∈ mTB ∧ Cond.arrayClass .int ∈ mTB ∧ Cond.arrayClass .long ∈ mTB ∧ Cond.arrayClass .boolean ∈ mTB) ∧ Cond.initialized "java/lang/Math" ∈ mTB ∧ (Cond.static Lib.Math.max.name ∈ mTB ∧ Cond.code Lib.Math.max.name Lib.Math.max.code 2 (some .int) ∈ mTB) ∧ (Cond.static Lib.Math.min.name ∈ mTB ∧ Cond.code Lib.Math.min.name Lib.Math.min.code 2 (some .int) ∈ mTB) ∧ (Cond.static Lib.Math.abs.name ∈ mTB ∧ Cond.code Lib.Math.abs.name Lib.Math.abs.code 1 (some .int) ∈ mTB) ∧ (Cond.static Lib.MathLoose.abs_long.x ∈ mTB ∧ Cond.code Lib.MathLoose.abs_long.x Lib.MathLoose.abs_long.code 2 (some .long) ∈ mTB) ∧ (Cond.static Lib.MathLoose.max_long.x ∈ mTB ∧ Cond.code Lib.MathLoose.max_long.x Lib.MathLoose.max_long.code 4 (some .long) ∈ mTB)
theorem mty_ok (c : Nat) (hc : c < 13) : ∀ k, k < mnf c → parseFieldDescriptor (mTT c k).2.2.1 = some (mty c k) := by
  match c, hc with
  | 0, _ => exact tyX0_ok
  | 1, _ => exact tyX1_ok
  | 2, _ => exact tyX2_ok
  | 3, _ => exact tyX3_ok
  | 4, _ => exact tyX4_ok
  | 5, _ => exact tyX5_ok
  | 6, _ => exact tyX6_ok
  | 7, _ => exact tyX7_ok
  | 8, _ => exact tyX8_ok
  | 9, _ => exact tyX9_ok
  | 10, _ => exact tyX10_ok
  | 11, _ => exact tyX11_ok
  | 12, _ => exact tyX12_ok
theorem mnm_ok (c : Nat) (hc : c < 13) : ∀ a, a < mnf c → ∀ b, b < mnf c → a ≠ b → (mTT c a).2.1 ≠ (mTT c b).2.1 := by
  match c, hc with
  | 0, _ => exact nmX0
  | 1, _ => exact nmX1
  | 2, _ => exact nmX2
  | 3, _ => exact nmX3
  | 4, _ => exact nmX4
  | 5, _ => exact nmX5
  | 6, _ => exact nmX6
  | 7, _ => exact nmX7
  | 8, _ => exact nmX8
  | 9, _ => exact nmX9
  | 10, _ => exact nmX10
  | 11, _ => exact nmX11
  | 12, _ => exact nmX12
theorem mTT_cls (c : Nat) (hc : c < 13) : ∀ k, k < mnf c → (mTT c k).1 = mCn c := by
  match c, hc with
  | 0, _ => decide +kernel
  | 1, _ => decide +kernel
  | 2, _ => decide +kernel
  | 3, _ => decide +kernel
  | 4, _ => decide +kernel
  | 5, _ => decide +kernel
  | 6, _ => decide +kernel
  | 7, _ => decide +kernel
  | 8, _ => decide +kernel
  | 9, _ => decide +kernel
  | 10, _ => decide +kernel
  | 11, _ => decide +kernel
  | 12, _ => decide +kernel
/-! the cells of the abstract heap, and what a write does to them -/
theorem mce_congr {cA : Nat → ClassId} {h h' : mH} {b : Nat} (e1 : mS h' b = mS h b) (e2 : mI h' b = mI h b) (e3 : mJ h' b = mJ h b) (e4 : mR h' b = mR h b) : mce cA h' b = mce cA h b := by
  have e5 : ∀ c, mfv h' b c = mfv h b c := fun c => by
    funext k
    unfold mfv
    rw [e2, e3, e4]
  unfold mce
  rw [e1, e2, e3, e4, e5]
theorem mce_obj {cA : Nat → ClassId} {h : mH} {a c : Nat} (e : (mS h a).1 = c) (hc : c < 13) : mce cA h a = .inr (c, (List.range (mnf c)).map (mfv h a c)) := by
  unfold mce
  rw [if_pos (by omega), e]
theorem mce_int {cA : Nat → ClassId} {h : mH} {a k : Nat} (e : (mS h a).1 = k) (hk : k = 13 ∨ k = 14 ∨ k = 16) : mce cA h a = .inl (cA k, (mS h a).2, .inl (mI h a)) := by
  unfold mce
  rw [if_neg (by omega), if_neg (by omega), if_neg (by omega), e]
theorem mce_long {cA : Nat → ClassId} {h : mH} {a : Nat} (e : (mS h a).1 = 15) : mce cA h a = .inl (cA 15, (mS h a).2, .inr (.inl (mJ h a))) := by
  unfold mce
  rw [if_neg (by omega), if_pos e]
theorem mce_ref {cA : Nat → ClassId} {h : mH} {a k : Nat} (e : (mS h a).1 = k) (hk : 17 ≤ k) : mce cA h a = .inl (cA k, (mS h a).2, .inr (.inr (.inr (.inr (mR h a))))) := by
  unfold mce
  rw [if_neg (by omega), if_neg (by omega), if_pos (by omega), e]
theorem mI_wI_ne {h : mH} {a k b : Nat} {x : Int32} (hb : b ≠ a) : mI (wI h a k x) b = mI h b := by
  funext j
  simp only [mI, wI, if_neg hb]
theorem mI_wI_self {h : mH} {a k : Nat} {x : Int32} : mI (wI h a k x) a = upd (mI h a) k x := by
  funext j
  simp only [mI, wI, if_pos]
  rfl
theorem mJ_wJ_ne {h : mH} {a k b : Nat} {x : Int64} (hb : b ≠ a) : mJ (wJ h a k x) b = mJ h b := by
  funext j
  simp only [mJ, wJ, if_neg hb]
theorem mJ_wJ_self {h : mH} {a k : Nat} {x : Int64} : mJ (wJ h a k x) a = vp_updL (mJ h a) k x := by
  funext j
  simp only [mJ, wJ, if_pos]
  rfl
theorem mR_wR_ne {h : mH} {a k b : Nat} {x : Option Nat} (hb : b ≠ a) : mR (wR h a k x) b = mR h b := by
  funext j
  simp only [mR, wR, if_neg hb]
theorem mR_wR_self {h : mH} {a k : Nat} {x : Option Nat} : mR (wR h a k x) a = va_up (mR h a) k x := by
  funext j
  simp only [mR, wR, if_pos]
  rfl
theorem mI_wA_ne {h : mH} {a b : Nat} {f : Nat → Int32} (hb : b ≠ a) : mI (wA h a f) b = mI h b := by
  funext j
  simp only [mI, wA, if_neg hb]
theorem mI_wA_self {h : mH} {a : Nat} {f : Nat → Int32} : mI (wA h a f) a = f := by
  funext j
  simp only [mI, wA, if_pos]
/-- a write into a cell of the world changes that cell alone -/
def mOne (a : Nat) (h h' : mH) : Prop := mE h' = mE h ∧ (∀ b, mS h' b = mS h b) ∧ ∀ b, b ≠ a → mI h' b = mI h b ∧ mJ h' b = mJ h b ∧ mR h' b = mR h b
theorem mOne_wI (h : mH) (a k : Nat) (x : Int32) : mOne a h (wI h a k x) := ⟨rfl, fun _ => rfl, fun _ hb => ⟨mI_wI_ne hb, rfl, rfl⟩⟩
theorem mOne_wJ (h : mH) (a k : Nat) (x : Int64) : mOne a h (wJ h a k x) := ⟨rfl, fun _ => rfl, fun _ hb => ⟨rfl, mJ_wJ_ne hb, rfl⟩⟩
theorem mOne_wR (h : mH) (a k : Nat) (x : Option Nat) : mOne a h (wR h a k x) := ⟨rfl, fun _ => rfl, fun _ hb => ⟨rfl, rfl, mR_wR_ne hb⟩⟩
theorem mOne_wA (h : mH) (a : Nat) (f : Nat → Int32) : mOne a h (wA h a f) := ⟨rfl, fun _ => rfl, fun _ hb => ⟨mI_wA_ne hb, rfl, rfl⟩⟩
theorem mOne_put (h : mH) (a k : Nat) (v : Value) : mOne a h (mPut h a k v) := by
  cases v <;> first | exact mOne_wI _ _ _ _ | exact mOne_wJ _ _ _ _ | exact mOne_wR _ _ _ _
/-- the relation behind such a write -/
theorem mRel.one {D : va_G} {cA : Nat → ClassId} {ad : mA} {B : Nat} {h h' : mH} {s : State} {H H1 : Heap} {locs locs1 : List Loc} {a : Nat} (hR : mRel D cA ad B h s H locs) (ha : (mS h a).1 < 21) (ho : mOne a h h') {e : va_E} (he : mce cA h' a = e) (hP : va_P D classes ((mwl cA B h).set (a - B) (a, e)) H1) (hS : va_S (fun q => B ≤ q) s.heap H1 locs1) : mRel D cA ad B h' s H1 locs1 := by
  obtain ⟨hK, -, hG, -, hB, h2⟩ := hR
  obtain ⟨g1, g2⟩ := hG.2 a ha
  have e1 : (mwl cA B h).set (a - B) (a, e) = mwl cA B h' := by
    rw [← he]
    exact mwl_set g1 g2 ho.1 (fun b hb => mce_congr (ho.2.1 b) (ho.2.2 b hb).1 (ho.2.2 b hb).2.1 (ho.2.2 b hb).2.2)
  refine ⟨hK, by rw [← e1]; exact hP, ⟨by rw [ho.1]; exact hG.1, fun b hb => by rw [ho.1]; exact hG.2 b (by rw [← ho.2.1 b]; exact hb)⟩, hS, hB, h2⟩
theorem mfv_put {h : mH} {a c k : Nat} {v : Value} {j : Nat} (hj : j ≠ k) : mfv (mPut h a k v) a c j = mfv h a c j := by
  unfold mfv
  have hI : mI (mPut h a k v) a j = mI h a j := by
    cases v <;> first | rfl | (show mI (wI h a k _) a j = _; rw [mI_wI_self]; simp [upd, hj])
  have hJ : mJ (mPut h a k v) a j = mJ h a j := by
    cases v <;> first | rfl | (show mJ (wJ h a k _) a j = _; rw [mJ_wJ_self]; simp [vp_updL, hj])
  have hR : mR (mPut h a k v) a j = mR h a j := by
    cases v <;> first | rfl | (show mR (wR h a k _) a j = _; rw [mR_wR_self]; simp [va_up, hj])
  rw [hI, hJ, hR]
theorem mfs_set {h : mH} {a c k n : Nat} {v : Value} (hk : k < n) (hv : mfv (mPut h a k v) a c k = v) : ((List.range n).map (mfv h a c)).set k v = (List.range n).map (mfv (mPut h a k v) a c) := by
  apply List.ext_getElem?
  intro j
  by_cases hj : j = k
  · subst hj
    rw [List.getElem?_set_self (by simpa using hk)]
    simp [hk, hv]
  · rw [List.getElem?_set_ne (fun q => hj q.symm)]
    simp only [List.getElem?_map]
    by_cases hn : j < n
    · rw [List.getElem?_range hn]
      simp only [Option.map_some]
      rw [mfv_put hj]
    · rw [List.getElem?_eq_none (by simpa using hn)]
      rfl
