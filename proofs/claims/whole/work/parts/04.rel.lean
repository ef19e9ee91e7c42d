/-- the tables' words that stay -/
def mTB : List Cond := lw_tbl.filter goodWord
theorem mTB_in {w : Cond} (h : w ∈ lw_tbl) (g : goodWord w = true) : w ∈ mTB := List.mem_filter.mpr ⟨h, g⟩
/-! locals -/
def mAs (L : mL) : List (Nat × Value) := (List.range L.length).filterMap (fun i => match L[i]? with
  | some (some v) => some (i, v)
  | _ => none)
theorem mAs_mem {L : mL} {i : Nat} {v : Value} : (i, v) ∈ mAs L ↔ L[i]? = some (some v) := by
  unfold mAs
  rw [List.mem_filterMap]
  constructor
  · rintro ⟨j, -, hj⟩
    split at hj
    · next w hw =>
      have := Option.some.inj hj
      injection this with e1 e2
      subst e1; subst e2
      exact hw
    · cases hj
  · intro h
    refine ⟨i, List.mem_range.mpr (List.getElem?_eq_some_iff.mp h).1, ?_⟩
    simp only [h]
def mLs (ls : Array Slot) (n : Nat) (L : mL) : Prop := L.length = n ∧ lv_has ls n (mAs L)
theorem mLs.at {ls : Array Slot} {n : Nat} {L : mL} (h : mLs ls n L) {i : Nat} {v : Value} (hl : L[i]? = some (some v)) : ls[i]? = some (.val v) := h.2.2.2 (i, v) (mAs_mem.mpr hl)
theorem mLs.size {ls : Array Slot} {n : Nat} {L : mL} (h : mLs ls n L) : ls.size = n := h.2.1
theorem mKill_len (L : mL) (i : Nat) : (mKill L i).length = L.length := by
  unfold mKill
  split
  · rfl
  · split
    · split <;> simp
    · rfl
theorem mKill_get {L : mL} {i j : Nat} {w : Value} (h : (mKill L i)[j]? = some (some w)) : L[j]? = some (some w) ∧ ¬ (j + 1 = i ∧ w.category = 2) := by
  unfold mKill at h
  split at h
  · exact ⟨h, fun q => by omega⟩
  · next k =>
    split at h
    · next u hu =>
      split at h
      · next hc =>
        by_cases hk : k = j
        · subst hk
          rw [List.getElem?_set_self (List.getElem?_eq_some_iff.mp hu).1] at h
          cases h
        · rw [List.getElem?_set_ne hk] at h
          exact ⟨h, fun q => hk (by omega)⟩
      · next hc =>
        refine ⟨h, fun q => ?_⟩
        have hjk : j = k := by omega
        subst hjk
        rw [hu] at h
        have e : u = w := by injection (Option.some.inj h)
        exact hc (by rw [e]; exact q.2)
    · next hn =>
      refine ⟨h, fun q => ?_⟩
      have hjk : j = k := by omega
      subst hjk
      exact hn w h
theorem mLs.set1 {ls ls' : Array Slot} {n i : Nat} {L : mL} {v : Value} (h : mLs ls n L) (hi : i < n) (hh : lv_has ls' n ((i, v) :: (mAs L).filter (fun q => !(q.1 == i) && !(q.1 + 1 == i && q.2.category == 2)))) : mLs ls' n (mSet1 L i v) := by
  refine ⟨by rw [mSet1, List.length_set, mKill_len]; exact h.1, hh.1, hh.2.1, fun q hq => hh.2.2 q ?_⟩
  obtain ⟨j, w⟩ := q
  have h1 := mAs_mem.mp hq
  unfold mSet1 at h1
  by_cases hj : i = j
  · subst hj
    rw [List.getElem?_set_self (by rw [mKill_len, h.1]; exact hi)] at h1
    have e : v = w := by injection (Option.some.inj h1)
    rw [e]
    exact List.mem_cons_self
  · rw [List.getElem?_set_ne hj] at h1
    obtain ⟨h2, h3⟩ := mKill_get h1
    refine List.mem_cons_of_mem _ (List.mem_filter.mpr ⟨mAs_mem.mpr h2, ?_⟩)
    by_cases c1 : j + 1 = i
    · have c2 : ¬ w.category = 2 := fun q => h3 ⟨c1, q⟩
      have c3 : ¬ j = i := by omega
      simp [c1, c2, c3]
    · have c3 : ¬ j = i := fun q => hj q.symm
      simp [c1, c3]
theorem mLs.set2 {ls ls' : Array Slot} {n i : Nat} {L : mL} {v : Value} (h : mLs ls n L) (hi : i + 1 < n) (hh : lv_has ls' n ((i, v) :: (mAs L).filter (fun q => !(q.1 == i) && (!(q.1 == i + 1) && !(q.1 + 1 == i && q.2.category == 2))))) : mLs ls' n (mSet2 L i v) := by
  refine ⟨by rw [mSet2, List.length_set, List.length_set, mKill_len]; exact h.1, hh.1, hh.2.1, fun q hq => hh.2.2 q ?_⟩
  obtain ⟨j, w⟩ := q
  have h1 := mAs_mem.mp hq
  unfold mSet2 at h1
  by_cases hj1 : i + 1 = j
  · subst hj1
    rw [List.getElem?_set_self (by rw [List.length_set, mKill_len, h.1]; exact hi)] at h1
    cases h1
  · rw [List.getElem?_set_ne hj1] at h1
    by_cases hj : i = j
    · subst hj
      rw [List.getElem?_set_self (by rw [mKill_len, h.1]; omega)] at h1
      have e : v = w := by injection (Option.some.inj h1)
      rw [e]
      exact List.mem_cons_self
    · rw [List.getElem?_set_ne hj] at h1
      obtain ⟨h2, h3⟩ := mKill_get h1
      refine List.mem_cons_of_mem _ (List.mem_filter.mpr ⟨mAs_mem.mpr h2, ?_⟩)
      have c3 : ¬ j = i := fun q => hj q.symm
      have c4 : ¬ j = i + 1 := fun q => hj1 q.symm
      by_cases c1 : j + 1 = i
      · have c2 : ¬ w.category = 2 := fun q => h3 ⟨c1, q⟩
        simp [c1, c2, c3, c4]
      · simp [c1, c3, c4]
/-! the machine's state and the abstract one -/
def mRel (D : va_G) (cA : Nat → ClassId) (ad : mA) (B : Nat) (h : mH) (s : State) (H : Heap) (locs : List Loc) : Prop :=
  va_K D classes (mtys cA) s ∧ va_P D classes (mwl cA B h) H ∧ mG B h ∧ va_S (fun q => B ≤ q) s.heap H locs ∧ B ≤ s.heap.size ∧ mO2 ad B s s.heap
def mCx (M : mM) (dp : Nat) (lim : Nat × Nat) (p : Program) (R : Room) (s : State) (m : MethodId) (args : Array Value) (meth : Method) (c : Code) : Prop :=
  p.tables.exec = Jvm.exec ∧ c.code = mMc M ∧ meth.sig.returnType = mMr M ∧ c.maxLocals = mMl M ∧ s.vm.findClass (mCn (mMo M)) = some m.cls ∧ (∀ w ∈ mTB, w.before args s = true) ∧ meth.locks = false ∧ ((mMn M).name = "<init>" → meth.name = "<init>") ∧ R.cells = lim.1 ∧ R.slots = lim.2 ∧ dp ≤ R.frames ∧ 100 * dp ≤ R.locals ∧ 1 ≤ dp
def mPc (D : va_G) (cA : Nat → ClassId) (ad : mA) (B : Nat) (A : List Value) (h : mH) : Array Value → State → Prop := fun v U =>
  v = A.toArray ∧ va_K D classes (mtys cA) U ∧ va_P D classes (mwl cA B h) U.heap ∧ U.heap.size = mE h ∧ mG B h ∧ mO2 ad B U U.heap
def mQc (D : va_G) (cA : Nat → ClassId) (B mc : Nat) (Q : mQ) : Array Value → State → Outcome → State → Prop := fun _ st o t =>
  (∃ v h', o = .returned v ∧ Q v h' ∧ va_P D classes (mwl cA B h') t.heap ∧ t.heap.size = mE h' ∧ mG B h' ∧ t.heap.size = st.heap.size + mc) ∧ va_F (fun q => B ≤ q) st t
/-- what is shown of every point of the method -/
def mXs (D : va_G) (cA : Nat → ClassId) (ad : mA) (B : Nat) (M : mM) (lim : Nat × Nat) (Qw : State → Prop) (p : Program) (l : Launch) (e : Env) (R : Room) (s : State) (m : MethodId) (args : Array Value) (below : List Frame) (meth : Method) (c : Code) : mX := fun pc L st h z =>
  ∀ (H : Heap) (locs : List Loc) (ls : Array Slot), mRel D cA ad B h s H locs → mE h = s.heap.size + z.1 → mLs ls (mMl M) L → z.1 ≤ lim.1 → z.2 ≤ lim.2 → W p l e R s m args below meth c H locs z.1 z.2 Qw (F0 m pc ls st)
theorem mO2.same {ad : mA} {B : Nat} {u U : State} {H : Heap} (hv : U.vm = u.vm) (q : mO2 ad B u H) : mO2 ad B U H := by
  have hvm : u.vm.Alike U.vm := by rw [hv]; exact Vm.Alike.refl u.vm
  refine ⟨fun j hj => va_Z.moved hvm (q.1 j hj), fun j h1 h2 => vk_R.same hv (q.2.1 j h1 h2), fun w hw => ?_, fun k h1 h2 => ?_, va_Z.moved hvm q.2.2.2.2.1, fun j hj => va_T.moved hvm (q.2.2.2.2.2.1 j hj), fun j h1 h2 => mStr.moved hvm (q.2.2.2.2.2.2.1 j h1 h2), va_Zq.moved hvm q.2.2.2.2.2.2.2⟩
  · have h := q.2.2.1 w hw
    simp only [mNw, List.mem_cons, List.not_mem_nil, or_false] at hw
    rcases hw with rfl | rfl | rfl | rfl | rfl | rfl | rfl | rfl | rfl | rfl | rfl | rfl | rfl | rfl <;> exact va_Nw.same rfl hv.symm h
  · obtain ⟨C, e, hC⟩ := q.2.2.2.1 k h1 h2
    exact ⟨C, e, va_AO.moved hvm hC⟩
theorem mPc_blind (D : va_G) (cA : Nat → ClassId) (ad : mA) (B : Nat) (A : List Value) (h : mH) : FrameBlind (mPc D cA ad B A h) := by
  intro a U g mk q
  obtain ⟨q0, qK, qP, qz, qG, q2⟩ := q
  exact ⟨q0, va_K.moved (u := U) (U := U.calling g mk a) (Vm.Alike.refl U.vm) qK, qP, qz, qG, mO2.same (u := U) (U := U.calling g mk a) rfl q2⟩
theorem mPc_of {D : va_G} {cA : Nat → ClassId} {ad : mA} {B : Nat} {h : mH} {s : State} {H : Heap} {locs : List Loc} (hR : mRel D cA ad B h s H locs) (hz : H.size = mE h) (A : List Value) : ∀ U : State, U.heap = H → s.WarmedH U.vm → mPc D cA ad B A h A.toArray U := by
  intro U hU hW
  obtain ⟨hK, hP, hG, hS, hB, h2⟩ := hR
  refine ⟨rfl, va_K.moved hW.alike hK, by rw [hU]; exact hP, by rw [hU]; exact hz, hG, ?_⟩
  rw [hU]
  exact mO2.to hW (fun a ha hb => hS.2.1 a ha hb) h2
/-- the heap is as large as the abstract one says -/
theorem mSz {D : va_G} {cA : Nat → ClassId} {ad : mA} {B : Nat} {h : mH} {p : Program} {l : Launch} {e : Env} {R : Room} {s : State} {m : MethodId} {args : Array Value} {below : List Frame} {meth : Method} {c : Code} {H : Heap} {locs : List Loc} {z1 z2 : Nat} {Qw : State → Prop} {g : JFrame} (hR : mRel D cA ad B h s H locs) (hE : mE h = s.heap.size + z1) (k : H.size = mE h → W p l e R s m args below meth c H locs z1 z2 Qw g) : W p l e R s m args below meth c H locs z1 z2 Qw g := by
  intro T hT X
  refine k ?_ T hT X
  obtain ⟨hK, hP, hG, hS, hB, h2⟩ := hR
  have hu : T.heap.size ≤ s.heap.size + z1 := X.same.2.2.1
  rw [hT] at hu
  have hlo : mE h ≤ H.size := by
    rcases Nat.lt_or_ge B (mE h) with q | q
    · have := (hP (mE h - 1 - B) _ (mwl_get (by omega) (by omega))).lt
      have e2 : mE h - 1 < H.size := this
      omega
    · have := hS.1
      omega
  omega
