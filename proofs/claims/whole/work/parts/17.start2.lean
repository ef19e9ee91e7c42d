/-! THE CLAIM OUT OF ONE WALK OF THE LAW'S BODY. Your part is whole_start (and what it stands on); all else here is the same for every law, but numbers. -/
def R_law : String := "BladePairsLaw"
def lw_P (b : Addr) (xs : List Int32) (args : Array Value) (s : State) : Prop := args = #[.ref b] ∧ s.IntsAt b xs ∧ xs.length ≤ 3072 ∧ (Jvm.Cond.and given_1 narrow_1).before args s = true
def lw_Q (_ : Array Value) (s : State) (o : Outcome) (t : State) : Prop := o = .returned (some (.int 1)) ∧ Framed s o t [] 600000 7302250
def lw_Z (below : List Frame) (a : Array Value) (s : State) : State → Prop := fun t => ∃ o, t.status = .running ∧ Ended t below o ∧ lw_Q a s o t
/-- the law's own end, with 1 on the stack, nothing written that was there before, its room as the claim has it -/
theorem lw_ret {p : Program} {l : Launch} {e : Env} {s : State} {m : MethodId} {below : List Frame} {meth : Method} {c : Code} {b : Nat} (hx : p.tables.exec = Jvm.exec) (hb : c.code = code) (hr : meth.sig.returnType = ret) (hlocks : meth.locks = false) {pc : Nat} {H : Heap} {ls : Array Slot} (hdg : decode code pc = .ok (.ireturn, 1)) : W p l e room_1 s m #[Value.ref b] below meth c H [] 600000 7302250 (lw_Z below #[Value.ref b] s) (F0 m pc ls [.int 1]) := by
  intro T hT X
  obtain ⟨fs, hret, hrun, hended, hW, hframe⟩ := X.leave (v := some (.int 1)) (hlocks := hlocks) (fun h => by rw [hr] at h; cases h)
  have hmeth' : T.vm.method? m = some meth := X.method'
  refine ⟨T.setFrames fs, ?_, .returned (some (.int 1)), hrun, hended, rfl, ⟨_, rfl⟩, hW, hframe⟩
  jvm_step X.here [X.here.top, hx, hb, hdg, hmeth', hr, ret, narrow_b1]
  (try refine ⟨rfl, ?_⟩); (try refine ⟨rfl, ?_⟩)
  first | (intro acts; rw [hret _ acts rfl rfl rfl]) | rw [hret _ _ rfl rfl rfl]
  exact Steps.refl _
/-- what holds at the law's entry: the machine, the code, the tables' words (any of lw_tbl by 'hts w (by decide +kernel)'), the script of L ints xs at the cell b, what the Statement gives of the start (any of its parts by flat_of_before) -/
def lw_At (p : Program) (s : State) (m : MethodId) (meth : Method) (c : Code) (b L : Nat) (xs : Nat → Int32) : Prop :=
  p.tables.exec = Jvm.exec ∧ c.code = code ∧ meth.sig.returnType = ret ∧ c.maxLocals = 4 ∧ s.vm.findClass R_law = some m.cls ∧ (∀ w ∈ lw_tbl, w.before #[Value.ref b] s = true) ∧ va_X b L xs s s.heap ∧ b < s.heap.size ∧ meth.locks = false ∧ (Jvm.Cond.and given_1 narrow_1).before #[Value.ref b] s = true

/-! the relation at the start -/
theorem tb1 {w : Cond} (i : Nat) (h : tables_1_1[i]? = some w) : w ∈ lw_tbl := by unfold lw_tbl tables_1; simp only [List.mem_append]; simp [List.mem_of_getElem? h]
theorem tb2 {w : Cond} (i : Nat) (h : tables_1_2[i]? = some w) : w ∈ lw_tbl := by unfold lw_tbl tables_1; simp only [List.mem_append]; simp [List.mem_of_getElem? h]
theorem tb3 {w : Cond} (i : Nat) (h : tables_1_3[i]? = some w) : w ∈ lw_tbl := by unfold lw_tbl tables_1; simp only [List.mem_append]; simp [List.mem_of_getElem? h]
theorem tb4 {w : Cond} (i : Nat) (h : tables_1_4[i]? = some w) : w ∈ lw_tbl := by unfold lw_tbl tables_1; simp only [List.mem_append]; simp [List.mem_of_getElem? h]
theorem tb5 {w : Cond} (i : Nat) (h : tables_1_5[i]? = some w) : w ∈ lw_tbl := by unfold lw_tbl tables_1; simp only [List.mem_append]; simp [List.mem_of_getElem? h]
theorem tb6 {w : Cond} (i : Nat) (h : tables_1_6[i]? = some w) : w ∈ lw_tbl := by unfold lw_tbl tables_1; simp only [List.mem_append]; simp [List.mem_of_getElem? h]
theorem tb7 {w : Cond} (i : Nat) (h : tables_1_7[i]? = some w) : w ∈ lw_tbl := by unfold lw_tbl tables_1; simp only [List.mem_append]; simp [List.mem_of_getElem? h]
theorem tb8 {w : Cond} (i : Nat) (h : tables_1_8[i]? = some w) : w ∈ lw_tbl := by unfold lw_tbl tables_1; simp only [List.mem_append]; simp [List.mem_of_getElem? h]
theorem tb9 {w : Cond} (i : Nat) (h : tables_1_9[i]? = some w) : w ∈ lw_tbl := by unfold lw_tbl tables_1; simp only [List.mem_append]; simp [List.mem_of_getElem? h]
def mh0 (B : Nat) : mH := (B, fun _ => (99, 0), fun _ _ => 0, fun _ _ => 0, fun _ _ => none)
theorem st_inst (c : Nat) (hc : c < 13) : Cond.instantiable (mCn c) (mnf c) ∈ lw_tbl := by
  match c, hc with
  | 0, _ => exact (tb1 49 rfl)
  | 1, _ => exact (tb1 163 rfl)
  | 2, _ => exact (tb1 43 rfl)
  | 3, _ => exact (tb2 171 rfl)
  | 4, _ => exact (tb2 115 rfl)
  | 5, _ => exact (tb2 73 rfl)
  | 6, _ => exact (tb1 214 rfl)
  | 7, _ => exact (tb2 34 rfl)
  | 8, _ => exact (tb1 32 rfl)
  | 9, _ => exact (tb2 140 rfl)
  | 10, _ => exact (tb1 139 rfl)
  | 11, _ => exact (tb1 24 rfl)
  | 12, _ => exact (tb6 174 rfl)
theorem st_nest : ∀ w ∈ mNw, w ∈ lw_tbl := by
  exact List.forall_mem_cons.mpr ⟨(tb1 215 rfl), List.forall_mem_cons.mpr ⟨(tb2 35 rfl), List.forall_mem_cons.mpr ⟨(tb2 74 rfl), List.forall_mem_cons.mpr ⟨(tb2 116 rfl), List.forall_mem_cons.mpr ⟨(tb2 141 rfl), List.forall_mem_cons.mpr ⟨(tb2 172 rfl), List.forall_mem_cons.mpr ⟨(tb2 79 rfl), List.forall_mem_cons.mpr ⟨(tb1 220 rfl), List.forall_mem_cons.mpr ⟨(tb1 222 rfl), List.forall_mem_cons.mpr ⟨(tb1 224 rfl), List.forall_mem_cons.mpr ⟨(tb2 40 rfl), List.forall_mem_cons.mpr ⟨(tb1 44 rfl), List.forall_mem_cons.mpr ⟨(tb1 140 rfl), List.forall_mem_cons.mpr ⟨(tb1 164 rfl), fun _ h => absurd h List.not_mem_nil⟩⟩⟩⟩⟩⟩⟩⟩⟩⟩⟩⟩⟩⟩
theorem st_over (k : Nat) (h1 : 17 ≤ k) (h2 : k < 21) : ∃ C, mat k = .object C ∧ Cond.arrayOver (.object C) ∈ lw_tbl := by
  rcases (by omega : k = 17 ∨ k = 18 ∨ k = 19 ∨ k = 20) with rfl | rfl | rfl | rfl
  · exact ⟨RX1, rfl, (tb1 42 rfl)⟩
  · exact ⟨RX2, rfl, (tb1 38 rfl)⟩
  · exact ⟨RX8, rfl, (tb1 212 rfl)⟩
  · exact ⟨RX10, rfl, (tb1 40 rfl)⟩
theorem st_str (j : Nat) (h1 : 5 ≤ j) (h2 : j < 20) : Cond.stringRef RX6 (mSt j).1 (mSt j).2 ∈ lw_tbl ∧ mKt j = Term.string RX6 (mSt j).1 := by
  rcases (by omega : j = 5 ∨ j = 6 ∨ j = 7 ∨ j = 8 ∨ j = 9 ∨ j = 10 ∨ j = 11 ∨ j = 12 ∨ j = 13 ∨ j = 14 ∨ j = 15 ∨ j = 16 ∨ j = 17 ∨ j = 18 ∨ j = 19) with rfl | rfl | rfl | rfl | rfl | rfl | rfl | rfl | rfl | rfl | rfl | rfl | rfl | rfl | rfl
  · exact ⟨(tb3 56 rfl), rfl⟩
  · exact ⟨(tb3 142 rfl), rfl⟩
  · exact ⟨(tb3 143 rfl), rfl⟩
  · exact ⟨(tb3 156 rfl), rfl⟩
  · exact ⟨(tb3 176 rfl), rfl⟩
  · exact ⟨(tb3 177 rfl), rfl⟩
  · exact ⟨(tb3 178 rfl), rfl⟩
  · exact ⟨(tb3 179 rfl), rfl⟩
  · exact ⟨(tb3 180 rfl), rfl⟩
  · exact ⟨(tb3 181 rfl), rfl⟩
  · exact ⟨(tb3 206 rfl), rfl⟩
  · exact ⟨(tb3 202 rfl), rfl⟩
  · exact ⟨(tb3 203 rfl), rfl⟩
  · exact ⟨(tb3 204 rfl), rfl⟩
  · exact ⟨(tb3 205 rfl), rfl⟩
theorem st_stat (j : Nat) (h : j < 5) : Cond.laysStatic RX6 (mSn j) "[I" ∈ lw_tbl ∧ mKt j = Term.static RX6 (mSn j) "[I" := by
  match j, h with
  | 0, _ => exact ⟨(tb3 123 rfl), rfl⟩
  | 1, _ => exact ⟨(tb3 125 rfl), rfl⟩
  | 2, _ => exact ⟨(tb3 149 rfl), rfl⟩
  | 3, _ => exact ⟨(tb3 151 rfl), rfl⟩
  | 4, _ => exact ⟨(tb3 208 rfl), rfl⟩
theorem st_compact : Cond.laysStatic "java/lang/String" "COMPACT_STRINGS" "Z" ∈ lw_tbl := (tb3 70 rfl)
theorem st_siof : Cond.laysStatic "jdk/internal/util/Preconditions" "SIOOBE_FORMATTER" "Ljava/util/function/BiFunction;" ∈ lw_tbl := (tb3 86 rfl)
theorem st_iniP : Cond.initialized "jdk/internal/util/Preconditions" ∈ lw_tbl := (tb1 19 rfl)
theorem st_iniS : Cond.initialized "java/lang/String" ∈ lw_tbl := (tb1 17 rfl)
theorem st_iniR : Cond.initialized RX6 ∈ lw_tbl := (tb1 8 rfl)
theorem st_arr (k : Nat) (h1 : 13 ≤ k) (h2 : k < 17) : Cond.arrayClass (mat k) ∈ lw_tbl := by
  rcases (by omega : k = 13 ∨ k = 14 ∨ k = 15 ∨ k = 16) with rfl | rfl | rfl | rfl
  · exact (tb1 98 rfl)
  · exact (tb1 99 rfl)
  · exact (tb7 123 rfl)
  · exact (tb2 169 rfl)
theorem st_A {args : Array Value} {s : State} (hg : (Jvm.Cond.and given_1 narrow_1).before args s = true) (j : Nat) (h : j < 5) : ∃ t : Nat, (mKt j).eval args s none [] s = some (.ref t) ∧ va_T .int t (mKc j).length (fun k => .int ((mKc j).getD k 0)) (fun q => s.heap.size ≤ q) s s.heap := by
  match j, h with
  | 0, _ => exact stA_0 hg
  | 1, _ => exact stA_1 hg
  | 2, _ => exact stA_2 hg
  | 3, _ => exact stA_3 hg
  | 4, _ => exact stA_4 hg
theorem st_S {args : Array Value} {s : State} (hg : (Jvm.Cond.and given_1 narrow_1).before args s = true) (j : Nat) (h1 : 5 ≤ j) (h2 : j < 20) : ∃ t : Nat, (mKt j).eval args s none [] s = some (.ref t) ∧ mStr s.heap.size (mKc j).length (fun k => (mKc j).getD k 0) t s s.heap := by
  rcases (by omega : j = 5 ∨ j = 6 ∨ j = 7 ∨ j = 8 ∨ j = 9 ∨ j = 10 ∨ j = 11 ∨ j = 12 ∨ j = 13 ∨ j = 14 ∨ j = 15 ∨ j = 16 ∨ j = 17 ∨ j = 18 ∨ j = 19) with rfl | rfl | rfl | rfl | rfl | rfl | rfl | rfl | rfl | rfl | rfl | rfl | rfl | rfl | rfl
  · exact stS_5 hg
  · exact stS_6 hg
  · exact stS_7 hg
  · exact stS_8 hg
  · exact stS_9 hg
  · exact stS_10 hg
  · exact stS_11 hg
  · exact stS_12 hg
  · exact stS_13 hg
  · exact stS_14 hg
  · exact stS_15 hg
  · exact stS_16 hg
  · exact stS_17 hg
  · exact stS_18 hg
  · exact stS_19 hg
theorem stRel {p : Program} {s : State} {m : MethodId} {meth : Method} {c : Code} {b L : Nat} {xs : Nat → Int32} (hL : L ≤ 3072) (C0 : lw_At p s m meth c b L xs) : ∃ (D : va_G) (cA : Nat → ClassId) (ad : mA), (ad.1 20 = b ∧ ad.2.1 20 = L ∧ ad.2.2 20 = xs) ∧ (∀ j, j < 20 → ad.2.1 j = (mKc j).length ∧ ∀ k, ad.2.2 j k = (mKc j).getD k 0) ∧ mRel D cA ad s.heap.size (mh0 s.heap.size) s s.heap [] := by
  obtain ⟨hx, hb, hr, hml, hown, hts, hX, hbl, hlocks, hg⟩ := C0
  have h1 : ∀ k : Nat, ∃ q : ClassId × (Nat → Nat), k < 13 → u_Kn s (mCn k) (mTT k) (mnf k) q.1 q.2 := by
    intro k
    by_cases hk : k < 13
    · obtain ⟨c1, i1, h⟩ := u_known (C := mCn k) (T := mTT k) (N := mnf k) (n := mnf k) hts (fun w hw => (List.mem_filter.mp (GW0.1 k hk w hw)).1) (hts _ (st_inst k hk))
      exact ⟨(c1, i1), fun _ => h⟩
    · exact ⟨(0, fun _ => 0), fun h => absurd h hk⟩
  have h2 : ∀ k : Nat, ∃ q : ClassId, 13 ≤ k → k < 21 → ArrOfT s q (mat k) ∧ va_RA s q (mat k) := by
    intro k
    by_cases hk1 : 13 ≤ k
    · by_cases hk2 : k < 17
      · obtain ⟨cq, kA, comp, e1, e2, e3⟩ := Cond.arrayClass_spec (hts _ (st_arr k hk1 hk2))
        refine ⟨cq, fun _ _ => ⟨fun n z => ⟨fun k h => (by cases h), kA, e2, comp, e3⟩, ?_⟩⟩
        have hk4 : k = 13 ∨ k = 14 ∨ k = 15 ∨ k = 16 := by omega
        rcases hk4 with rfl | rfl | rfl | rfl <;> exact e1
      · by_cases hk3 : k < 21
        · obtain ⟨C, e0, hw⟩ := st_over k (by omega) hk3
          obtain ⟨comp, cq, kA, e1, -, e2, e3, e4⟩ := Cond.arrayOver_spec (hts _ hw)
          refine ⟨cq, fun _ _ => ?_⟩
          rw [e0]
          exact ⟨fun n z => ⟨fun k h => (by cases h), kA, e2, comp, e3⟩, kA, comp, e2, e3, e1, e4⟩
        · exact ⟨0, fun _ h => absurd h hk3⟩
    · exact ⟨0, fun h => absurd h hk1⟩
  have h3 : ∀ j : Nat, ∃ t : Nat, (j < 5 → (mKt j).eval #[Value.ref b] s none [] s = some (.ref t) ∧ va_T .int t (mKc j).length (fun k => .int ((mKc j).getD k 0)) (fun q => s.heap.size ≤ q) s s.heap) ∧ (5 ≤ j → j < 20 → (mKt j).eval #[Value.ref b] s none [] s = some (.ref t) ∧ mStr s.heap.size (mKc j).length (fun k => (mKc j).getD k 0) t s s.heap) := by
    intro j
    by_cases hj : j < 5
    · obtain ⟨t, ht⟩ := st_A hg j hj
      exact ⟨t, fun _ => ht, fun h => absurd hj (by omega)⟩
    · by_cases hj2 : j < 20
      · obtain ⟨t, ht⟩ := st_S hg j (by omega) hj2
        exact ⟨t, fun h => absurd h hj, fun _ _ => ht⟩
      · exact ⟨0, fun h => absurd h hj, fun _ h => absurd h hj2⟩
  obtain ⟨d1, hd1⟩ := Classical.axiomOfChoice h1
  obtain ⟨cA, hcA⟩ := Classical.axiomOfChoice h2
  obtain ⟨a1, ha1⟩ := Classical.axiomOfChoice h3
  have hA : ∀ a : Nat, a < s.heap.size → ¬ s.heap.size ≤ a := fun a ha => Nat.not_le.mpr ha
  refine ⟨(fun k => (d1 k).1, fun k => (d1 k).2), cA, (fun j => if j = 20 then b else a1 j, fun j => if j = 20 then L else (mKc j).length, fun j k => if j = 20 then xs k else (mKc j).getD k 0), ⟨rfl, rfl, rfl⟩, fun j hj => ⟨if_neg (by omega), fun k => if_neg (by omega)⟩, ?_⟩
  have n20 : ∀ j, j < 20 → ¬ j = 20 := fun j h => by omega
  refine ⟨⟨fun k q hq => ?_, fun k q hq => ?_⟩, fun k q hq => ?_, ⟨Nat.le_refl _, fun a ha => ?_⟩, va_S.rf, Nat.le_refl _, fun j hj => ?_, fun j h5 h6 => ?_, fun w hw => ?_, fun k h5 h6 => ?_, ?_, fun j hj => ?_, fun j h5 h6 => ?_, ?_⟩
  · have hk : k < 13 := (List.getElem?_eq_some_iff.mp hq).1
    rw [classes_get hk] at hq
    cases hq
    exact hd1 k hk
  · have hk : k < 8 := by
      have := (List.getElem?_eq_some_iff.mp hq).1
      simpa [mtys] using this
    have e1 := mtys_get cA (k := 13 + k) (by omega) (by omega)
    rw [show 13 + k - 13 = k by omega, hq] at e1
    cases e1
    exact hcA (13 + k) (by omega) (by omega)
  · obtain ⟨hk, -⟩ := mwl_inv hq
    exact absurd hk (by show ¬ k < s.heap.size - s.heap.size; omega)
  · exact absurd ha (by show ¬ 99 < 21; omega)
  · obtain ⟨g1, g2⟩ := st_stat j hj
    have g3 := ((ha1 j).1 hj).1
    rw [g2] at g3
    show va_Z RX6 (mSn j) "[I" (.ref (if j = 20 then b else a1 j)) _ _ _
    rw [if_neg (by omega)]
    exact va_Zref (hts _ g1) (hts _ st_iniR) g3 hA
  · obtain ⟨g1, g2⟩ := st_str j h5 h6
    have g3 := ((ha1 j).2 h5 h6).1
    rw [g2] at g3
    show vk_R RX6 (mSt j).1 (mSt j).2 (if j = 20 then b else a1 j) s
    rw [if_neg (by omega)]
    exact vk_R.of (hts _ g1) g3
  · have g1 := hts _ (st_nest w hw)
    simp only [mNw, List.mem_cons, List.not_mem_nil, or_false] at hw
    rcases hw with rfl | rfl | rfl | rfl | rfl | rfl | rfl | rfl | rfl | rfl | rfl | rfl | rfl | rfl <;> exact va_Nw.of rfl g1
  · obtain ⟨C, e0, hw⟩ := st_over k h5 h6
    exact ⟨C, e0, va_AO.of (hts _ hw)⟩
  · exact va_Zof (hts _ st_compact) (hts _ st_iniS) (va_eqi (nwg nwl140 hg 6 rfl)) hA
  · rcases hj with hj | rfl
    · show va_T .int (if j = 20 then b else a1 j) (if j = 20 then L else (mKc j).length) (fun k => .int (if j = 20 then xs k else (mKc j).getD k 0)) _ _ _
      simp only [if_neg (show ¬ j = 20 by omega)]
      exact ((ha1 j).1 hj).2
    · obtain ⟨scr, x1, x2, x3, x4, x5⟩ := hX
      exact ⟨scr, x1, x2, x3, by rw [x4]; exact Nat.le_refl _, by rw [x4]; rfl, fun k hk => x5 k hk, hA b hbl⟩
  · show mStr s.heap.size (if j = 20 then L else (mKc j).length) (fun k => if j = 20 then xs k else (mKc j).getD k 0) (if j = 20 then b else a1 j) _ _
    simp only [if_neg (show ¬ j = 20 by omega)]
    exact ((ha1 j).2 h5 h6).2
  · exact va_Zqof (hts _ st_siof) (hts _ st_iniP) (flat_of_before _ hg _ (by decide +kernel)) hA
