theorem lv_subm {ls : Array Slot} {nL : Nat} {l l' : List (Nat × Value)} (h : lv_has ls nL l) (hm : ∀ q ∈ l', q ∈ l) : lv_has ls nL l' := ⟨h.1, h.2.1, fun q hq => h.2.2 q (hm q hq)⟩
theorem mIn_args : ∀ (A : List Value) (o i : Nat) (v : Value), (mIn A)[i]? = some (some v) → (o + i, v) ∈ lv_args o A := by
  intro A
  induction A with
  | nil => intro o i v h; simp [mIn] at h
  | cons w vs ih =>
    intro o i v h
    rw [mIn] at h
    rw [lv_args]
    by_cases hc : w.category = 2
    · rw [if_pos hc] at h ⊢
      match i, h with
      | 0, h =>
        have : w = v := by simpa using h
        subst this
        exact List.mem_cons_self
      | 1, h => simp at h
      | i + 2, h =>
        have h2 : (mIn vs)[i]? = some (some v) := by simpa using h
        have := ih (o + 2) i v h2
        rw [show o + (i + 2) = o + 2 + i by omega]
        exact List.mem_cons_of_mem _ this
    · rw [if_neg hc] at h ⊢
      match i, h with
      | 0, h =>
        have : w = v := by simpa using h
        subst this
        exact List.mem_cons_self
      | i + 1, h =>
        have h2 : (mIn vs)[i]? = some (some v) := by simpa using h
        have := ih (o + 1) i v h2
        rw [show o + (i + 1) = o + 1 + i by omega]
        exact List.mem_cons_of_mem _ this
theorem mIns_args {A : List Value} {n i : Nat} {v : Value} (h : (mIns n A)[i]? = some (some v)) : (i, v) ∈ lv_args 0 A := by
  unfold mIns at h
  by_cases hi : i < (mIn A).length
  · rw [List.getElem?_append_left hi] at h
    have := mIn_args A 0 i v h
    rw [Nat.zero_add] at this
    exact this
  · rw [List.getElem?_append_right (by omega)] at h
    have := List.eq_of_mem_replicate (List.mem_of_getElem? h)
    cases this
/-! every instruction is sound -/
/-- texts: their length, a sign of them -/
def mStrOK (T : mTb) (ad : mA) (D : va_G) (cA : Nat → ClassId) (B : Nat) (l : Launch) : Prop :=
  ∀ {M : mM} {dp : Nat} {lim : Nat × Nat} {p : Program} {e : Env} {R : Room} {s : State} {m : MethodId} {args : Array Value} {below : List Frame} {meth : Method} {c : Code} {pc : Nat} {ls : Array Slot} {r : List Value} {h : mH} {H : Heap} {locs : List Loc} {z1 z2 : Nat} {Qw : State → Prop} {i j : Nat}, mCx M dp lim p R s m args meth c → mRel D cA ad B h s H locs → mE h = s.heap.size + z1 → 6 ≤ dp → ls.size = mMl M → decode (mMc M) pc = .ok (.invokevirtual i, 3) → (r.map fun v => v.category).sum ≤ 8 → (5 ≤ j ∧ j < 20) → z1 ≤ lim.1 → z2 ≤ lim.2 →
    (∀ {N : mM}, tMet T (mMo M) i = some (6, N) → W p l e R s m args below meth c H locs z1 z2 Qw (F0 m (pc + 3) ls (.int (Int32.ofNat (ad.2.1 j)) :: r)) → W p l e R s m args below meth c H locs z1 z2 Qw (F0 m pc ls (.ref (ad.1 j) :: r))) ∧
    (∀ {N : mM} {x : Int32}, tMet T (mMo M) i = some (7, N) → vp_in x (ad.2.1 j) → W p l e R s m args below meth c H locs z1 z2 Qw (F0 m (pc + 3) ls (.int (ad.2.2 j x.toNatClampNeg &&& 255) :: r)) → W p l e R s m args below meth c H locs z1 z2 Qw (F0 m pc ls (.int x :: .ref (ad.1 j) :: r)))
/-- the method's end -/
def mRetOK (D : va_G) (cA : Nat → ClassId) (ad : mA) (B : Nat) (M : mM) (lim : Nat × Nat) (Q : mZ) (Qw : State → Prop) (p : Program) (l : Launch) (e : Env) (R : Room) (s : State) (m : MethodId) (args : Array Value) (below : List Frame) (meth : Method) (c : Code) : Prop :=
  ∀ (pc : Nat) (ls : Array Slot) (st : List Value) (h : mH) (z : Nat × Nat) (H : Heap) (locs : List Loc) (v : Option Value) (ins : Instr), mRel D cA ad B h s H locs → mE h = s.heap.size + z.1 → H.size = mE h → z.1 ≤ lim.1 → z.2 ≤ lim.2 → Q v h z → decode (mMc M) pc = .ok (ins, 1) → mRt M ins st v → W p l e R s m args below meth c H locs z.1 z.2 Qw (F0 m pc ls st)
set_option maxHeartbeats 4000000 in
theorem mSnd {T : mTb} {ad : mA} {D : va_G} {cA : Nat → ClassId} {B : Nat} {M : mM} {d : Nat} {lim : Nat × Nat} {p : Program} {l : Launch} {e : Env} {R : Room} {s : State} {m : MethodId} {args : Array Value} {below : List Frame} {meth : Method} {c : Code} (C : mCx M (d + 1) lim p R s m args meth c) (hT : mGT T) (hW : mGW) (hM : mMt T ad D cA B l d) (hSt : mStrOK T ad D cA B l) {Q : mZ} {Qw : State → Prop} (hret : mRetOK D cA ad B M lim Q Qw p l e R s m args below meth c) :
    mClo T ad M (d + 1) lim (mCal T ad d) Q (mXs D cA ad B M lim Qw p l e R s m args below meth c) := by
  intro pc L st h z hh
  obtain ⟨ins, len, hd, hlen, hw⟩ := hh
  intro H locs ls hR hE hl h1 h2
  obtain ⟨hx, hb, hr, hml, hown, hts, hlk, hnm, q1, q2, q3, q4, q5⟩ := id C
  cases ins with
  | aconst_null =>
    obtain rfl : len = 1 := hlen
    exact lv_null hx hb hd (hw H locs ls hR hE hl h1 h2)
  | iconst i =>
    obtain rfl : len = 1 := hlen
    exact lv_iconst hx hb hd rfl (hw H locs ls hR hE hl h1 h2)
  | bipush i =>
    obtain rfl : len = 2 := hlen
    exact lv_bipush hx hb hd rfl (hw H locs ls hR hE hl h1 h2)
  | sipush i =>
    obtain rfl : len = 3 := hlen
    exact lv_sipush hx hb hd rfl (hw H locs ls hR hE hl h1 h2)
  | lconst i =>
    obtain rfl : len = 1 := hlen
    exact lv_lconst hx hb hd rfl (hw H locs ls hR hE hl h1 h2)
  | ldc i =>
    obtain rfl : len = 2 := hlen
    rcases hw with ⟨x, ht, k⟩ | ⟨j, ht, k⟩
    · exact lv_ldc hx hb hown (hts _ (hT.2.1 _ _ _ ht)) hd (k H locs ls hR hE hl h1 h2)
    · obtain ⟨w1, w2, w3, w4⟩ := hT.2.2.1 _ _ _ ht
      have hv := hR.2.2.2.2.2.2.1 j w2 w3
      rw [w4] at hv
      exact va_ldcS hx hb (by rw [← w1]; exact hown) hv hd (k H locs ls hR hE hl h1 h2)
  | ldc_w i =>
    obtain rfl : len = 3 := hlen
    obtain ⟨x, ht, k⟩ := hw
    exact lv_ldcw hx hb hown (hts _ (hT.2.1 _ _ _ ht)) hd (k H locs ls hR hE hl h1 h2)
  | ldc2_w i =>
    obtain rfl : len = 3 := hlen
    obtain ⟨x, ht, k⟩ := hw
    exact lv_ldc2 hx hb hown (hts _ (hT.2.2.2.1 _ _ _ ht)) hd (k H locs ls hR hE hl h1 h2)
  | iload i =>
    obtain rfl : len = 2 := hlen
    obtain ⟨x, hx1, k⟩ := hw
    exact lv_iload hx hb hd (hl.at hx1) (k H locs ls hR hE hl h1 h2)
  | iload_n i =>
    obtain rfl : len = 1 := hlen
    obtain ⟨x, hx1, k⟩ := hw
    exact lv_iload_n hx hb hd rfl (hl.at hx1) (k H locs ls hR hE hl h1 h2)
  | lload i =>
    obtain rfl : len = 2 := hlen
    obtain ⟨x, hx1, k⟩ := hw
    exact lv_lload hx hb hd (hl.at hx1) (k H locs ls hR hE hl h1 h2)
  | lload_n i =>
    obtain rfl : len = 1 := hlen
    obtain ⟨x, hx1, k⟩ := hw
    exact lv_lload_n hx hb hd rfl (hl.at hx1) (k H locs ls hR hE hl h1 h2)
  | aload i =>
    obtain rfl : len = 2 := hlen
    obtain ⟨x, hx1, k⟩ := hw
    cases x with
    | none => exact lv_aloadN hx hb hd (hl.at hx1) (k H locs ls hR hE hl h1 h2)
    | some a => exact lv_aload hx hb hd (hl.at hx1) (k H locs ls hR hE hl h1 h2)
  | aload_n i =>
    obtain rfl : len = 1 := hlen
    obtain ⟨x, hx1, k⟩ := hw
    cases x with
    | none => exact lv_aload_nN hx hb hd rfl (hl.at hx1) (k H locs ls hR hE hl h1 h2)
    | some a => exact lv_aload_n hx hb hd rfl (hl.at hx1) (k H locs ls hR hE hl h1 h2)
  | istore i =>
    obtain rfl : len = 2 := hlen
    obtain ⟨x, r, rfl, hi, k⟩ := hw
    have hi2 : i < mMl M := by rw [← hl.1]; exact hi
    exact lv_istore hx hb hd hl.2 hi2 rfl (fun ls' hl' => k H locs ls' hR hE (hl.set1 hi2 hl') h1 h2)
  | istore_n i =>
    obtain rfl : len = 1 := hlen
    obtain ⟨x, r, rfl, hi, k⟩ := hw
    have hi2 : (i : Nat) < mMl M := by rw [← hl.1]; exact hi
    exact lv_istore_n hx hb hd rfl hl.2 hi2 rfl (fun ls' hl' => k H locs ls' hR hE (hl.set1 hi2 hl') h1 h2)
  | lstore i =>
    obtain rfl : len = 2 := hlen
    obtain ⟨x, r, rfl, hi, k⟩ := hw
    have hi2 : i + 1 < mMl M := by rw [← hl.1]; exact hi
    exact lv_lstore hx hb hd hl.2 hi2 rfl (fun ls' hl' => k H locs ls' hR hE (hl.set2 hi2 hl') h1 h2)
  | lstore_n i =>
    obtain rfl : len = 1 := hlen
    obtain ⟨x, r, rfl, hi, k⟩ := hw
    have hi2 : (i : Nat) + 1 < mMl M := by rw [← hl.1]; exact hi
    exact lv_lstore_n hx hb hd rfl hl.2 hi2 rfl (fun ls' hl' => k H locs ls' hR hE (hl.set2 hi2 hl') h1 h2)
  | astore i =>
    obtain rfl : len = 2 := hlen
    obtain ⟨x, r, rfl, hi, k⟩ := hw
    have hi2 : i < mMl M := by rw [← hl.1]; exact hi
    cases x with
    | none => exact lv_astoreN hx hb hd hl.2 hi2 rfl (fun ls' hl' => k H locs ls' hR hE (hl.set1 hi2 hl') h1 h2)
    | some a => exact lv_astore hx hb hd hl.2 hi2 rfl (fun ls' hl' => k H locs ls' hR hE (hl.set1 hi2 hl') h1 h2)
  | astore_n i =>
    obtain rfl : len = 1 := hlen
    obtain ⟨x, r, rfl, hi, k⟩ := hw
    have hi2 : (i : Nat) < mMl M := by rw [← hl.1]; exact hi
    cases x with
    | none => exact lv_astore_nN hx hb hd rfl hl.2 hi2 rfl (fun ls' hl' => k H locs ls' hR hE (hl.set1 hi2 hl') h1 h2)
    | some a => exact lv_astore_n hx hb hd rfl hl.2 hi2 rfl (fun ls' hl' => k H locs ls' hR hE (hl.set1 hi2 hl') h1 h2)
  | iinc i n =>
    obtain rfl : len = 3 := hlen
    obtain ⟨x, hx1, k⟩ := hw
    have hi2 : i < mMl M := by rw [← hl.1]; exact (List.getElem?_eq_some_iff.mp hx1).1
    obtain ⟨q, hq⟩ := List.getElem?_of_mem (mAs_mem.mpr hx1)
    exact lv_iinc hx hb hd hl.2 hq rfl hi2 rfl (fun ls' hl' => k H locs ls' hR hE (hl.set1 hi2 hl') h1 h2)
  | dup =>
    obtain rfl : len = 1 := hlen
    obtain ⟨v, r, rfl, hv, k⟩ := hw
    exact lv_dup hx hb hd hv (k H locs ls hR hE hl h1 h2)
  | dup2 =>
    obtain rfl : len = 1 := hlen
    obtain ⟨v, w, r, rfl, hv, hw2, k⟩ := hw
    exact lv_dup2_11 hx hb hd hv hw2 (k H locs ls hR hE hl h1 h2)
  | pop =>
    obtain rfl : len = 1 := hlen
    obtain ⟨v, r, rfl, hv, k⟩ := hw
    exact lv_pop hx hb hd hv (k H locs ls hR hE hl h1 h2)
  | iadd =>
    obtain rfl : len = 1 := hlen
    obtain ⟨x, y, r, rfl, k⟩ := hw
    exact lv_iadd hx hb hd (k H locs ls hR hE hl h1 h2)
  | isub =>
    obtain rfl : len = 1 := hlen
    obtain ⟨x, y, r, rfl, k⟩ := hw
    exact lv_isub hx hb hd (k H locs ls hR hE hl h1 h2)
  | imul =>
    obtain rfl : len = 1 := hlen
    obtain ⟨x, y, r, rfl, k⟩ := hw
    exact lv_imul hx hb hd (k H locs ls hR hE hl h1 h2)
  | iand =>
    obtain rfl : len = 1 := hlen
    obtain ⟨x, y, r, rfl, k⟩ := hw
    exact lv_iand hx hb hd (k H locs ls hR hE hl h1 h2)
  | ior =>
    obtain rfl : len = 1 := hlen
    obtain ⟨x, y, r, rfl, k⟩ := hw
    exact lv_ior hx hb hd (k H locs ls hR hE hl h1 h2)
  | ixor =>
    obtain rfl : len = 1 := hlen
    obtain ⟨x, y, r, rfl, k⟩ := hw
    exact lv_ixor hx hb hd (k H locs ls hR hE hl h1 h2)
  | ishl =>
    obtain rfl : len = 1 := hlen
    obtain ⟨x, y, r, rfl, k⟩ := hw
    exact lv_ishl hx hb hd (k H locs ls hR hE hl h1 h2)
  | ishr =>
    obtain rfl : len = 1 := hlen
    obtain ⟨x, y, r, rfl, k⟩ := hw
    exact lv_ishr hx hb hd (k H locs ls hR hE hl h1 h2)
  | ladd =>
    obtain rfl : len = 1 := hlen
    obtain ⟨x, y, r, rfl, k⟩ := hw
    exact lv_ladd hx hb hd (k H locs ls hR hE hl h1 h2)
  | lsub =>
    obtain rfl : len = 1 := hlen
    obtain ⟨x, y, r, rfl, k⟩ := hw
    exact lv_lsub hx hb hd (k H locs ls hR hE hl h1 h2)
  | lmul =>
    obtain rfl : len = 1 := hlen
    obtain ⟨x, y, r, rfl, k⟩ := hw
    exact lv_lmul hx hb hd (k H locs ls hR hE hl h1 h2)
  | land =>
    obtain rfl : len = 1 := hlen
    obtain ⟨x, y, r, rfl, k⟩ := hw
    exact lv_land hx hb hd (k H locs ls hR hE hl h1 h2)
  | lor =>
    obtain rfl : len = 1 := hlen
    obtain ⟨x, y, r, rfl, k⟩ := hw
    exact lv_lor hx hb hd (k H locs ls hR hE hl h1 h2)
  | idiv =>
    obtain rfl : len = 1 := hlen
    obtain ⟨x, y, r, rfl, hy, k⟩ := hw
    exact lv_idiv hx hb hd hy (k H locs ls hR hE hl h1 h2)
  | irem =>
    obtain rfl : len = 1 := hlen
    obtain ⟨x, y, r, rfl, hy, k⟩ := hw
    exact lv_irem hx hb hd hy (k H locs ls hR hE hl h1 h2)
  | ldiv =>
    obtain rfl : len = 1 := hlen
    obtain ⟨x, y, r, rfl, hy, k⟩ := hw
    exact lv_ldiv hx hb hd hy (k H locs ls hR hE hl h1 h2)
  | lrem =>
    obtain rfl : len = 1 := hlen
    obtain ⟨x, y, r, rfl, hy, k⟩ := hw
    exact lv_lrem hx hb hd hy (k H locs ls hR hE hl h1 h2)
  | iushr =>
    obtain rfl : len = 1 := hlen
    obtain ⟨x, y, r, rfl, k⟩ := hw
    exact lv_iushr hx hb hd rfl (k H locs ls hR hE hl h1 h2)
  | lshl =>
    obtain rfl : len = 1 := hlen
    obtain ⟨x, y, r, rfl, k⟩ := hw
    exact lv_lshl hx hb hd rfl (k H locs ls hR hE hl h1 h2)
  | lshr =>
    obtain rfl : len = 1 := hlen
    obtain ⟨x, y, r, rfl, k⟩ := hw
    exact lv_lshr hx hb hd rfl (k H locs ls hR hE hl h1 h2)
  | lushr =>
    obtain rfl : len = 1 := hlen
    obtain ⟨x, y, r, rfl, k⟩ := hw
    exact lv_lushr hx hb hd rfl (k H locs ls hR hE hl h1 h2)
  | ineg =>
    obtain rfl : len = 1 := hlen
    obtain ⟨x, r, rfl, k⟩ := hw
    exact lv_ineg hx hb hd (k H locs ls hR hE hl h1 h2)
  | lneg =>
    obtain rfl : len = 1 := hlen
    obtain ⟨x, r, rfl, k⟩ := hw
    exact lv_lneg hx hb hd (k H locs ls hR hE hl h1 h2)
  | i2l =>
    obtain rfl : len = 1 := hlen
    obtain ⟨x, r, rfl, k⟩ := hw
    exact lv_i2l hx hb hd rfl (k H locs ls hR hE hl h1 h2)
  | l2i =>
    obtain rfl : len = 1 := hlen
    obtain ⟨x, r, rfl, k⟩ := hw
    exact lv_l2i hx hb hd rfl (k H locs ls hR hE hl h1 h2)
  | i2b =>
    obtain rfl : len = 1 := hlen
    obtain ⟨x, r, rfl, k⟩ := hw
    exact lv_i2b hx hb hd rfl (k H locs ls hR hE hl h1 h2)
  | i2c =>
    obtain rfl : len = 1 := hlen
    obtain ⟨x, r, rfl, k⟩ := hw
    exact lv_i2c hx hb hd rfl (k H locs ls hR hE hl h1 h2)
  | lcmp =>
    obtain rfl : len = 1 := hlen
    obtain ⟨x, y, r, rfl, k⟩ := hw
    exact W.lcmp hx hb hd (k H locs ls hR hE hl h1 h2)
  | ifCond cd off =>
    obtain rfl : len = 3 := hlen
    obtain ⟨x, r, t, rfl, ht, kt, kf⟩ := hw
    cases cd with
    | eq => exact lv_if_eq hx hb hd ht (fun q => kt q H locs ls hR hE hl h1 h2) (fun q => kf q H locs ls hR hE hl h1 h2)
    | ne => exact lv_if_ne hx hb hd ht (fun q => kt q H locs ls hR hE hl h1 h2) (fun q => kf (fun w => w q) H locs ls hR hE hl h1 h2)
    | lt => exact lv_if_lt hx hb hd ht (fun q => kt q H locs ls hR hE hl h1 h2) (fun q => kf q H locs ls hR hE hl h1 h2)
    | ge => exact lv_if_ge hx hb hd ht (fun q => kt q H locs ls hR hE hl h1 h2) (fun q => kf q H locs ls hR hE hl h1 h2)
    | gt => exact lv_if_gt hx hb hd ht (fun q => kt q H locs ls hR hE hl h1 h2) (fun q => kf q H locs ls hR hE hl h1 h2)
    | le => exact lv_if_le hx hb hd ht (fun q => kt q H locs ls hR hE hl h1 h2) (fun q => kf q H locs ls hR hE hl h1 h2)
  | if_icmp cd off =>
    obtain rfl : len = 3 := hlen
    obtain ⟨x, y, r, t, rfl, ht, kt, kf⟩ := hw
    cases cd with
    | eq => exact lv_icmp_eq hx hb hd ht (fun q => kt q H locs ls hR hE hl h1 h2) (fun q => kf q H locs ls hR hE hl h1 h2)
    | ne => exact lv_icmp_ne hx hb hd ht (fun q => kt q H locs ls hR hE hl h1 h2) (fun q => kf (fun w => w q) H locs ls hR hE hl h1 h2)
    | lt => exact lv_icmp_lt hx hb hd ht (fun q => kt q H locs ls hR hE hl h1 h2) (fun q => kf q H locs ls hR hE hl h1 h2)
    | ge => exact lv_icmp_ge hx hb hd ht (fun q => kt q H locs ls hR hE hl h1 h2) (fun q => kf q H locs ls hR hE hl h1 h2)
    | gt => exact lv_icmp_gt hx hb hd ht (fun q => kt q H locs ls hR hE hl h1 h2) (fun q => kf q H locs ls hR hE hl h1 h2)
    | le => exact lv_icmp_le hx hb hd ht (fun q => kt q H locs ls hR hE hl h1 h2) (fun q => kf q H locs ls hR hE hl h1 h2)
  | ifnull off =>
    obtain rfl : len = 3 := hlen
    obtain ⟨x, r, t, rfl, ht, kt, kf⟩ := hw
    cases x with
    | none => exact lv_ifnullN hx hb hd ht (kt rfl H locs ls hR hE hl h1 h2)
    | some a => exact lv_ifnull hx hb hd (kf (fun q => by cases q) H locs ls hR hE hl h1 h2)
  | ifnonnull off =>
    obtain rfl : len = 3 := hlen
    obtain ⟨x, r, t, rfl, ht, kt, kf⟩ := hw
    cases x with
    | none => exact lv_ifnonnullN hx hb hd (kt rfl H locs ls hR hE hl h1 h2)
    | some a => exact lv_ifnonnull hx hb hd ht (kf (fun q => by cases q) H locs ls hR hE hl h1 h2)
  | goto off =>
    obtain rfl : len = 3 := hlen
    obtain ⟨t, ht, k⟩ := hw
    exact lv_goto hx hb hd ht (k H locs ls hR hE hl h1 h2)
  | tableswitch dflt lo hi offs =>
    obtain ⟨x, r, t, rfl, hsz, ht, k⟩ := hw
    unfold mTab at ht
    by_cases hq : x.toInt < lo ∨ hi < x.toInt
    · rw [if_pos hq] at ht
      exact lv_tableOut hx hb hd hq ht (k H locs ls hR hE hl h1 h2)
    · rw [if_neg hq] at ht
      have hlt := hsz hq
      have ho : offs[(x.toInt - lo).toNat]? = some (offs[(x.toInt - lo).toNat]) := Array.getElem?_eq_getElem hlt
      rw [ho] at ht
      exact lv_tableIn hx hb hd (fun w => hq (Or.inl w)) (fun w => hq (Or.inr w)) ho ht (k H locs ls hR hE hl h1 h2)
  | lookupswitch dflt ps =>
    obtain ⟨x, r, t, rfl, hp, ht, k⟩ := hw
    exact lv_lookup hx hb hd hp rfl ht (k H locs ls hR hE hl h1 h2)
  | getfield i =>
    obtain rfl : len = 3 := hlen
    obtain ⟨a, r, cc, kf, rfl, ht, hs, k⟩ := hw
    exact s_get C hT hW hR hd ht hs (k H locs ls hR hE hl h1 h2)
  | putfield i =>
    obtain rfl : len = 3 := hlen
    obtain ⟨v, a, r, cc, kf, rfl, ht, hs, hn, hf, hv, hfin, k⟩ := hw
    exact s_put C hT hW hR hd ht hs hn hf hv hfin (fun H1 locs1 hR1 => k H1 locs1 ls hR1 (by rw [(mOne_put h a kf v).1]; exact hE) hl h1 h2)
  | getstatic i =>
    obtain rfl : len = 3 := hlen
    obtain ⟨j, ht, k⟩ := hw
    obtain ⟨w1, w2⟩ := hT.2.2.2.2.2.2.1 _ _ _ ht
    exact va_gets hx hb (hR.2.2.2.2.2.1 j w1) hR.2.2.2.1 hown (hts _ w2) (fun _ h9 => h9) hd (k H locs ls hR hE hl h1 h2)
  | new i =>
    obtain rfl : len = 3 := hlen
    obtain ⟨cc, ht, c1, c2, k⟩ := hw
    exact s_new C hT hW hR hE hd ht c1 c2 (fun H1 locs1 hR1 => k H1 locs1 ls hR1 (by rw [wN_E]; omega) hl c1 c2)
  | newarray t =>
    obtain rfl : len = 2 := hlen
    obtain ⟨n, r, kd, rfl, ht, hn, hN, c1, c2, k⟩ := hw
    exact s_newa C hW hR hE hd ht hn hN c1 c2 (fun H1 locs1 hR1 => k H1 locs1 ls hR1 (by rw [wN_E]; omega) hl c1 c2)
  | anewarray i =>
    obtain rfl : len = 3 := hlen
    obtain ⟨n, r, kd, rfl, ht, hn, hN, c1, c2, k⟩ := hw
    exact s_newq C hT hR hE hd ht hn hN c1 c2 (fun H1 locs1 hR1 => k H1 locs1 ls hR1 (by rw [wN_E]; omega) hl c1 c2)
  | arraylength =>
    obtain rfl : len = 1 := hlen
    rcases hw with ⟨a, r, rfl, hs, k⟩ | ⟨j, r, rfl, hs, k⟩
    · exact s_len C hR hd hs (k H locs ls hR hE hl h1 h2)
    · exact s_lenO C hR hd hs (k H locs ls hR hE hl h1 h2)
  | iaload =>
    obtain rfl : len = 1 := hlen
    rcases hw with ⟨i, a, r, rfl, hs, hi, k⟩ | ⟨i, j, r, rfl, hs, hi, k⟩
    · exact s_ild C hR (Or.inl ⟨rfl, hd⟩) hs hi (k H locs ls hR hE hl h1 h2)
    · exact s_ildO C hR hd hs hi (k H locs ls hR hE hl h1 h2)
  | baload =>
    obtain rfl : len = 1 := hlen
    obtain ⟨i, a, r, rfl, hs, hi, k⟩ := hw
    exact s_ild C hR (Or.inr ⟨hs, hd⟩) rfl hi (k H locs ls hR hE hl h1 h2)
  | laload =>
    obtain rfl : len = 1 := hlen
    obtain ⟨i, a, r, rfl, hs, hi, k⟩ := hw
    exact s_lld C hR hd hs hi (k H locs ls hR hE hl h1 h2)
  | aaload =>
    obtain rfl : len = 1 := hlen
    obtain ⟨i, a, r, rfl, hs, hs2, hi, k⟩ := hw
    exact s_ald C hR hd hs hs2 hi (k H locs ls hR hE hl h1 h2)
  | iastore =>
    obtain rfl : len = 1 := hlen
    obtain ⟨x, i, a, r, rfl, hs, hi, k⟩ := hw
    exact s_ist C hR (Or.inl ⟨rfl, rfl, hd⟩) hs hi (fun H1 locs1 hR1 => k H1 locs1 ls hR1 hE hl h1 h2)
  | bastore =>
    obtain rfl : len = 1 := hlen
    obtain ⟨x, i, a, r, rfl, hs, hi, k⟩ := hw
    exact s_ist C hR (Or.inr ⟨hs, rfl, hd⟩) rfl hi (fun H1 locs1 hR1 => k H1 locs1 ls hR1 hE hl h1 h2)
  | lastore =>
    obtain rfl : len = 1 := hlen
    obtain ⟨x, i, a, r, rfl, hs, hi, k⟩ := hw
    exact s_lst C hR hd hs hi (fun H1 locs1 hR1 => k H1 locs1 ls hR1 hE hl h1 h2)
  | aastore =>
    obtain rfl : len = 1 := hlen
    obtain ⟨v, i, a, r, rfl, hs, hs2, hv, ht, hi, k⟩ := hw
    exact s_ast C hR hd hs hs2 hv ht hi (fun H1 locs1 hR1 => k H1 locs1 ls hR1 hE hl h1 h2)
  | invokevirtual i =>
    obtain rfl : len = 3 := hlen
    rcases hw with ⟨N, A, a, r, mc, ms, ht, rfl, hA, hr8, hk, hk2, c1, c2, hq⟩ | ⟨N, j, r, ht, rfl, hr8, hk, hdp, k⟩ | ⟨N, j, x, r, ht, rfl, hr8, hk, hj, hdp, k⟩
    · exact s_callV C hT hM hl.size hR hE hd ht hA hr8 hk hk2 c1 c2 hq (fun v h' H1 locs1 kq hR1 hE1 => kq H1 locs1 ls hR1 hE1 hl c1 c2)
    · exact (hSt C hR hE hdp hl.size hd hr8 hk h1 h2).1 ht (k H locs ls hR hE hl h1 h2)
    · exact (hSt C hR hE hdp hl.size hd hr8 hk h1 h2).2 ht hj (k H locs ls hR hE hl h1 h2)
  | invokestatic i =>
    obtain rfl : len = 3 := hlen
    rcases hw with ⟨N, A, r, mc, ms, ht, rfl, hA, hr8, c1, c2, hq⟩ | ⟨N, n, dp', sp, a, a0, r, ht, rfl, hr8, hk, hk0, g1, g2, g3, g4, g5, g6, k⟩ | ⟨N, x, y, r, ht, rfl, hr8, k⟩ | ⟨N, x, y, r, ht, rfl, hr8, k⟩ | ⟨N, x, r, ht, rfl, hr8, k⟩ | ⟨N, x, r, ht, rfl, hr8, k⟩ | ⟨N, x, y, r, ht, rfl, hr8, k⟩
    · exact s_callS C hT hM hl.size hR hE hd ht hA hr8 c1 c2 hq (fun v h' H1 locs1 kq hR1 hE1 => kq H1 locs1 ls hR1 hE1 hl c1 c2)
    · exact s_cpy C hT hW hl.size hR hd ht hr8 hk hk0 g1 g2 g3 g4 g5 g6 (fun H1 locs1 hR1 => k H1 locs1 ls hR1 hE hl h1 h2)
    · exact s_m10 C hT hW hl.size hd ht hr8 h1 h2 (k H locs ls hR hE hl h1 h2)
    · exact s_m11 C hT hW hl.size hd ht hr8 h1 h2 (k H locs ls hR hE hl h1 h2)
    · exact s_m12 C hT hW hl.size hd ht hr8 h1 h2 (k H locs ls hR hE hl h1 h2)
    · exact s_m13 C hT hW hl.size hd ht hr8 h1 h2 (k H locs ls hR hE hl h1 h2)
    · exact s_m14 C hT hW hl.size hd ht hr8 h1 h2 (k H locs ls hR hE hl h1 h2)
  | invokespecial i =>
    obtain rfl : len = 3 := hlen
    rcases hw with ⟨N, A, a, r, mc, ms, ht, rfl, hA, hr8, c1, c2, hq⟩ | ⟨N, a, r, ht, rfl, hr8, k⟩
    · exact s_callI C hT hM hl.size hR hE hd ht hA hr8 c1 c2 hq (fun v h' H1 locs1 kq hR1 hE1 => kq H1 locs1 ls hR1 hE1 hl c1 c2)
    · exact s_obj C hT hW hl.size hd ht hr8 (k H locs ls hR hE hl h1 h2)
  | ireturn =>
    obtain rfl : len = 1 := hlen
    obtain ⟨v, hv, kq⟩ := hw
    exact mSz hR hE (fun hz => hret pc ls st h z H locs v _ hR hE hz h1 h2 kq hd hv)
  | lreturn =>
    obtain rfl : len = 1 := hlen
    obtain ⟨v, hv, kq⟩ := hw
    exact mSz hR hE (fun hz => hret pc ls st h z H locs v _ hR hE hz h1 h2 kq hd hv)
  | areturn =>
    obtain rfl : len = 1 := hlen
    obtain ⟨v, hv, kq⟩ := hw
    exact mSz hR hE (fun hz => hret pc ls st h z H locs v _ hR hE hz h1 h2 kq hd hv)
  | return_ =>
    obtain rfl : len = 1 := hlen
    obtain ⟨v, hv, kq⟩ := hw
    exact mSz hR hE (fun hz => hret pc ls st h z H locs v _ hR hE hz h1 h2 kq hd hv)
  | _ => exact False.elim hw
theorem s_ret {D : va_G} {cA : Nat → ClassId} {ad : mA} {B : Nat} {h : mH} {s : State} {args : Array Value} {H : Heap} {locs : List Loc} {lim : Nat × Nat} {z1 : Nat} {Q : mQ} {v : Option Value} (hR : mRel D cA ad B h s H locs) (hE : mE h = s.heap.size + z1) (hz : H.size = mE h) (hlim : z1 = lim.1) (hq : Q v h) : ∀ t : State, t.heap = H → s.WarmedH t.vm → mQc D cA B lim.1 Q args s (.returned v) t := by
  intro t ht hW
  obtain ⟨hK, hP, hG, hS, hB, h2⟩ := hR
  refine ⟨⟨v, h, rfl, hq, by rw [ht]; exact hP, by rw [ht]; exact hz, hG, by rw [ht]; omega⟩, hS.F ht⟩
/-- the end of a method that is called -/
theorem mRet_of {D : va_G} {cA : Nat → ClassId} {ad : mA} {B : Nat} {M : mM} {dp : Nat} {lim : Nat × Nat} {Q : mQ} {p : Program} {l : Launch} {e : Env} {R : Room} {s : State} {m : MethodId} {args : Array Value} {below : List Frame} {meth : Method} {c : Code} (C : mCx M dp lim p R s m args meth c) : mRetOK D cA ad B M lim (fun v h z => z.1 = lim.1 ∧ Q v h) (MQ below (mQc D cA B lim.1 Q) args s lim.1 lim.2 (fun q => B ≤ q)) p l e R s m args below meth c := by
  intro pc ls st h z H locs v ins hR hE hz h1 h2 hq hd hv
  obtain ⟨hx, hb, hr, hml, hown, hts, hlk, hnm, q1, q2, q3, q4, q5⟩ := id C
  obtain ⟨hlim, kq⟩ := hq
  refine W.widen (k := lim.1) (n := lim.2) h1 h2 ?_
  cases ins with
  | ireturn =>
    obtain ⟨x, ty, rfl, hrt, hn, rfl⟩ := hv
    exact W.zret hx hb (hr.trans hrt) hn (s_ret hR hE hz hlim kq) hR.2.2.2.1.2.2 hd hlk
  | lreturn =>
    obtain ⟨x, rfl, hrt, rfl⟩ := hv
    exact W.lret hx hb (hr.trans hrt) (s_ret hR hE hz hlim kq) hR.2.2.2.1.2.2 hd hlk
  | areturn =>
    obtain ⟨x, n, rfl, hrt, rfl⟩ := hv
    exact W.aret hx hb (hr.trans hrt) (Or.inl ⟨n, rfl⟩) (by cases x with
      | none => exact Or.inl rfl
      | some a => exact Or.inr ⟨a, rfl⟩) (s_ret hR hE hz hlim kq) hR.2.2.2.1.2.2 hd hlk
  | return_ =>
    obtain ⟨rfl, hrt, rfl⟩ := hv
    exact W.vret hx hb (hr.trans hrt) (s_ret hR hE hz hlim kq) hR.2.2.2.1.2.2 hd hlk
  | _ => exact False.elim hv
/-- a method's end out of its abstract run -/
theorem mMt_all {T : mTb} {ad : mA} {D : va_G} {cA : Nat → ClassId} {B : Nat} {l : Launch} (hT : mGT T) (hW : mGW) (hSt : mStrOK T ad D cA B l) : ∀ d, mMt T ad D cA B l d := by
  intro d
  induction d with
  | zero =>
    intro N A h mc ms Q hN hq
    exact False.elim hq
  | succ d ih =>
    intro N A h mc ms Q hN hq
    obtain ⟨hlen, hev⟩ := hq
    refine Met.ofW (cc := mMc N) (maxL := mMl N) (ret := mMr N) hN.2.1 rfl ?_
    intro p e s m args below meth c s₁ B0 hml hv
    obtain ⟨rfl, qK, qP, qz, qG, qo2⟩ := hv
    have hts := atoms_spec (ws := mWs N) B0.pre
    have hown : s.vm.findClass (mCn (mMo N)) = some m.cls := by
      rw [← hN.1]
      exact findClass_of_methodNamed B0.named
    have C : mCx N (d + 1) (mc, ms) p (mRm (d + 1) mc ms) s m A.toArray meth c := ⟨B0.exec, B0.bytes, B0.returns, hml, hown, fun w hw => hts w (List.mem_cons_of_mem _ hw), B0.notSynchronized, (fun q => (name_of_methodNamed B0.named B0.method).1.trans q), rfl, rfl, Nat.le_refl _, Nat.le_refl _, by omega⟩
    have hk := hev (mXs D cA ad B N (mc, ms) (MQ below (mQc D cA B mc Q) A.toArray s mc ms (fun q => B ≤ q)) p l e (mRm (d + 1) mc ms) s m A.toArray below meth c) (mSnd C hT hW ih hSt (mRet_of C))
    rw [lg_entry_eq]
    have hsl : ∀ A : List Value, (lg_sl A).length = (mIn A).length := by
      intro A
      induction A with
      | nil => rfl
      | cons v vs ihv =>
        have e1 : lg_sl (v :: vs) = (if v.category = 2 then [.val v, .second] else [.val v]) ++ lg_sl vs := by simp [lg_sl]
        rw [e1, mIn]
        split <;> simp [ihv]
    refine hk s.heap [] _ ⟨qK, qP, qG, va_S.rf, by rw [qz]; exact qG.1, qo2⟩ qz.symm ⟨?_, ?_⟩ (Nat.zero_le _) (Nat.zero_le _)
    · rw [mIns, List.length_append, List.length_replicate]
      omega
    · refine lv_subm (lv_entry A (n := mMl N) (by rw [hsl]; exact hlen)) ?_
      intro q hq
      obtain ⟨i, v⟩ := q
      exact mIns_args (mAs_mem.mp hq)

