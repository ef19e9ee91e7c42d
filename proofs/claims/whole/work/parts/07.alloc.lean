/-! new objects and arrays -/
theorem wN_S {h : mH} {kd n b : Nat} : mS (wN h kd n) b = if b = mE h then (kd, n) else mS h b := rfl
theorem wN_I {h : mH} {kd n b : Nat} : mI (wN h kd n) b = if b = mE h then (fun _ => 0) else mI h b := rfl
theorem wN_J {h : mH} {kd n b : Nat} : mJ (wN h kd n) b = if b = mE h then (fun _ => 0) else mJ h b := rfl
theorem wN_R {h : mH} {kd n b : Nat} : mR (wN h kd n) b = if b = mE h then (fun _ => none) else mR h b := rfl
theorem wN_E {h : mH} {kd n : Nat} : mE (wN h kd n) = mE h + 1 := rfl
theorem mce_wN {cA : Nat → ClassId} {h : mH} {kd n b : Nat} (hb : b ≠ mE h) : mce cA (wN h kd n) b = mce cA h b :=
  mce_congr (by rw [wN_S, if_neg hb]) (by rw [wN_I, if_neg hb]) (by rw [wN_J, if_neg hb]) (by rw [wN_R, if_neg hb])
theorem mRel.push {D : va_G} {cA : Nat → ClassId} {ad : mA} {B : Nat} {h : mH} {s : State} {H H1 : Heap} {locs locs1 : List Loc} {kd n : Nat} (hR : mRel D cA ad B h s H locs) (hk : kd < 21) {e : va_E} (he : mce cA (wN h kd n) (mE h) = e) (hP : va_P D classes (mwl cA B h ++ [(mE h, e)]) H1) (hS : va_S (fun q => B ≤ q) s.heap H1 locs1) : mRel D cA ad B (wN h kd n) s H1 locs1 := by
  obtain ⟨hK, -, hG, -, hB, h2⟩ := hR
  have e1 : mwl cA B h ++ [(mE h, e)] = mwl cA B (wN h kd n) := by
    rw [← he]
    exact mwl_push hG.1 wN_E (fun b hb => mce_wN (by omega))
  refine ⟨hK, by rw [← e1]; exact hP, ⟨by rw [wN_E]; have := hG.1; omega, fun b hb => ?_⟩, hS, hB, h2⟩
  rw [wN_S] at hb
  split at hb
  · next q => rw [wN_E, q]; exact ⟨hG.1, by omega⟩
  · have := hG.2 b hb
    rw [wN_E]
    omega
theorem mNewQ {D : va_G} {cA : Nat → ClassId} {B q : Nat} {h : mH} {e : va_E} {H1 : Heap} (hP : va_P D classes (mwl cA B h ++ [(q, e)]) H1) (hD : va_D (fun q => B ≤ q) (mwl cA B h ++ [(q, e)])) (hz : H1.size ≤ mE h + 1) : q = mE h := by
  have hl : (mwl cA B h).length = mE h - B := mwl_len cA B h
  have hq : (mwl cA B h ++ [(q, e)])[mE h - B]? = some (q, e) := by
    rw [List.getElem?_append_right (by omega), hl, Nat.sub_self]
    rfl
  have h1 : q < H1.size := (hP _ _ hq).lt
  have h2 : B ≤ q := hD.2 _ _ hq
  rcases Nat.lt_or_ge q (mE h) with c | c
  · have hw : (mwl cA B h ++ [(q, e)])[q - B]? = some (q, mce cA h q) := by
      rw [List.getElem?_append_left (by omega)]
      exact mwl_get h2 c
    have := hD.1 _ _ _ _ hw hq rfl
    omega
  · omega
theorem mdef (c : Nat) (hc : c < 13) : ∀ j, j < mnf c → defaultValue (mty c j) = (match mty c j with
    | .long => .long 0
    | .object _ => .null
    | .array _ => .null
    | _ => .int 0) := by
  match c, hc with
  | 0, _ => decide +kernel
  | 1, _ => decide +kernel
  | 2, _ => decide +kernel
  | 3, _ => decide +kernel
  | 4, _ => decide +kernel
  | 5, _ => decide +kernel
  | 6, _ => decide +kernel
  | 7, _ => decide +kernel
  | 8, _ => decide +kernel
  | 9, _ => decide +kernel
  | 10, _ => decide +kernel
  | 11, _ => decide +kernel
  | 12, _ => decide +kernel
section Alc
variable {T : mTb} {ad : mA} {D : va_G} {cA : Nat → ClassId} {B : Nat} {M : mM} {dp : Nat} {lim : Nat × Nat} {p : Program} {l : Launch} {e : Env} {R : Room} {s : State} {m : MethodId} {args : Array Value} {below : List Frame} {meth : Method} {c : Code} {pc : Nat} {ls : Array Slot} {r : List Value} {h : mH} {H : Heap} {locs : List Loc} {z1 z2 : Nat} {Qw : State → Prop}
/-- behind an allocation the new cell is the next one -/
theorem mGrow {H1 : Heap} {locs1 : List Loc} {q : Nat} {g : Nat → JFrame} {e0 : va_E} (hE : mE h = s.heap.size + z1) (hP : va_P D classes (mwl cA B h ++ [(q, e0)]) H1) (hD : va_D (fun q => B ≤ q) (mwl cA B h ++ [(q, e0)]))
    (k : q = mE h → W p l e R s m args below meth c H1 locs1 (z1 + 1) z2 Qw (g q)) : W p l e R s m args below meth c H1 locs1 (z1 + 1) z2 Qw (g q) := by
  intro T hT X
  have hu : T.heap.size ≤ s.heap.size + (z1 + 1) := X.same.2.2.1
  rw [hT] at hu
  exact k (mNewQ hP hD (by omega)) T hT X
theorem s_new (C : mCx M dp lim p R s m args meth c) (hT : mGT T) (hW : mGW) {i cc : Nat} (hR : mRel D cA ad B h s H locs) (hE : mE h = s.heap.size + z1) (hd : decode (mMc M) pc = .ok (.new i, 3)) (ht : tCls T (mMo M) i = some cc) (hc1 : z1 + 1 ≤ lim.1) (hc2 : z2 + mnf cc ≤ lim.2)
    (kk : ∀ H1 locs1, mRel D cA ad B (wN h cc 0) s H1 locs1 → W p l e R s m args below meth c H1 locs1 (z1 + 1) (z2 + mnf cc) Qw (F0 m (pc + 3) ls (.ref (mE h) :: r))) : W p l e R s m args below meth c H locs z1 z2 Qw (F0 m pc ls r) := by
  obtain ⟨hK, hP, hG, hS, hB, h2⟩ := id hR
  obtain ⟨hx, hb, hr, hml, hown, hts, hlk, hnm, q1, q2, q3, q4, q5⟩ := C
  obtain ⟨g1, g2, g3, g4⟩ := hT.2.2.2.2.1 _ _ _ ht
  have hk : (mS (wN h cc 0) (mE h)).1 = cc := by rw [wN_S, if_pos rfl]
  have hfs : ∀ j, j < mnf cc → defaultValue (mty cc j) = vp_V ((List.range (mnf cc)).map (mfv (wN h cc 0) (mE h) cc)) j := by
    intro j hj
    have e1 : vp_V ((List.range (mnf cc)).map (mfv (wN h cc 0) (mE h) cc)) j = mfv (wN h cc 0) (mE h) cc j := by
      simp [vp_V, hj]
    rw [e1, mdef cc g1 j hj]
    unfold mfv
    rw [wN_I, wN_J, wN_R, if_pos rfl, if_pos rfl, if_pos rfl]
    rfl
  refine va_new (ci := cc) (fs := (List.range (mnf cc)).map (mfv (wN h cc 0) (mE h) cc)) (C := mCn cc) (T := mTT cc) (N := mnf cc) hx hb hts (hW.1 cc g1) (mty cc) (mty_ok cc g1) hown (hts _ g2) (hts _ g3) (hts _ g4) hK hP (mwl_D cA B h) hS (fun q hq => Nat.le_trans hB hq) (classes_get g1) hfs (by rw [q1]; exact hc1) (by rw [q2]; exact hc2) hd (fun q H1 hP1 hD1 hS1 => ?_)
  refine mGrow (g := fun q => F0 m (pc + 3) ls (.ref q :: r)) hE hP1 hD1 (fun hq => ?_)
  subst hq
  exact kk H1 _ (hR.push (by omega) (mce_obj hk g1) hP1 hS1)
theorem s_newa (C : mCx M dp lim p R s m args meth c) (hW : mGW) {t : ArrayType} {kd : Nat} {n : Int32} (hR : mRel D cA ad B h s H locs) (hE : mE h = s.heap.size + z1) (hd : decode (mMc M) pc = .ok (.newarray t, 2)) (ht : mArk t = some kd) (hn : ¬ n < 0) (hN : n.toNatClampNeg ≤ 4096) (hc1 : z1 + 1 ≤ lim.1) (hc2 : z2 + n.toNatClampNeg ≤ lim.2)
    (kk : ∀ H1 locs1, mRel D cA ad B (wN h kd n.toNatClampNeg) s H1 locs1 → W p l e R s m args below meth c H1 locs1 (z1 + 1) (z2 + n.toNatClampNeg) Qw (F0 m (pc + 2) ls (.ref (mE h) :: r))) : W p l e R s m args below meth c H locs z1 z2 Qw (F0 m pc ls (.int n :: r)) := by
  obtain ⟨hK, hP, hG, hS, hB, h2⟩ := id hR
  obtain ⟨hx, hb, hr, hml, hown, hts, hlk, hnm, q1, q2, q3, q4, q5⟩ := C
  have hcell : ∀ (k : Nat) (x : vp_A), (k = 13 ∨ k = 14 ∨ k = 16) → x = (n.toNatClampNeg, .inl (fun _ => 0)) → mce cA (wN h k n.toNatClampNeg) (mE h) = .inl (cA k, x) := by
    intro k x hk hx
    have e1 : (mS (wN h k n.toNatClampNeg) (mE h)) = (k, n.toNatClampNeg) := by rw [wN_S, if_pos rfl]
    rw [mce_int (k := k) (by rw [e1]) hk, e1, wN_I, if_pos rfl, hx]
  have hA : ∀ q, s.heap.size ≤ q → (fun q => B ≤ q) q := fun q hq => Nat.le_trans hB hq
  have same : ∀ (k : Nat) (ty : FieldType) (cB : ClassId), 13 ≤ k → k < 17 → mat k = ty → va_RA s cB ty → cB = cA k := by
    intro k ty cB k1 k2 hm hra
    have h3 := (hK.2 _ _ (mtys_get cA k1 (by omega))).2
    subst hm
    have hk4 : k = 13 ∨ k = 14 ∨ k = 15 ∨ k = 16 := by omega
    rcases hk4 with rfl | rfl | rfl | rfl <;> exact (Option.some.inj (h3.symm.trans hra)).symm
  have last : ∀ (ty : FieldType) (cB : ClassId), va_K D classes (mtys cA ++ [(cB, ty)]) s → va_RA s cB ty := fun ty cB hk => (hk.2 8 (cB, ty) rfl).2
  cases t <;> simp only [mArk] at ht <;> cases ht
  · refine va_newa (atype := .boolean) (ty := .boolean) (a0 := (n.toNatClampNeg, .inl (fun _ => 0))) hx hb (hts _ hW.2.2.2.1.2.2.2) rfl hK hP (mwl_D cA B h) hS hA (fun cB => by rw [vp_cell_i]; rfl) hn rfl (by simp [componentBytes]; omega) (by rw [q1]; exact hc1) (by rw [q2]; exact hc2) hd (fun q cB H1 hK1 hP1 hD1 hS1 => ?_)
    obtain rfl := same 16 .boolean cB (by omega) (by omega) rfl (last _ _ hK1)
    refine mGrow (g := fun q => F0 m (pc + 2) ls (.ref q :: r)) hE hP1 hD1 (fun hq => ?_)
    subst hq
    exact kk H1 _ (hR.push (by omega) (hcell 16 _ (by omega) rfl) hP1 hS1)
  · refine va_newa (atype := .byte) (ty := .byte) (a0 := (n.toNatClampNeg, .inl (fun _ => 0))) hx hb (hts _ hW.2.2.2.1.1) rfl hK hP (mwl_D cA B h) hS hA (fun cB => by rw [vp_cell_i]; rfl) hn rfl (by simp [componentBytes]; omega) (by rw [q1]; exact hc1) (by rw [q2]; exact hc2) hd (fun q cB H1 hK1 hP1 hD1 hS1 => ?_)
    obtain rfl := same 13 .byte cB (by omega) (by omega) rfl (last _ _ hK1)
    refine mGrow (g := fun q => F0 m (pc + 2) ls (.ref q :: r)) hE hP1 hD1 (fun hq => ?_)
    subst hq
    exact kk H1 _ (hR.push (by omega) (hcell 13 _ (by omega) rfl) hP1 hS1)
  · refine va_newa (atype := .int) (ty := .int) (a0 := (n.toNatClampNeg, .inl (fun _ => 0))) hx hb (hts _ hW.2.2.2.1.2.1) rfl hK hP (mwl_D cA B h) hS hA (fun cB => by rw [vp_cell_i]; rfl) hn rfl (by simp [componentBytes]; omega) (by rw [q1]; exact hc1) (by rw [q2]; exact hc2) hd (fun q cB H1 hK1 hP1 hD1 hS1 => ?_)
    obtain rfl := same 14 .int cB (by omega) (by omega) rfl (last _ _ hK1)
    refine mGrow (g := fun q => F0 m (pc + 2) ls (.ref q :: r)) hE hP1 hD1 (fun hq => ?_)
    subst hq
    exact kk H1 _ (hR.push (by omega) (hcell 14 _ (by omega) rfl) hP1 hS1)
  · refine va_newa (atype := .long) (ty := .long) (a0 := (n.toNatClampNeg, .inr (.inl (fun _ => 0)))) hx hb (hts _ hW.2.2.2.1.2.2.1) rfl hK hP (mwl_D cA B h) hS hA (fun cB => by rw [vp_cell_l]; rfl) hn rfl (by simp [componentBytes]; omega) (by rw [q1]; exact hc1) (by rw [q2]; exact hc2) hd (fun q cB H1 hK1 hP1 hD1 hS1 => ?_)
    obtain rfl := same 15 .long cB (by omega) (by omega) rfl (last _ _ hK1)
    refine mGrow (g := fun q => F0 m (pc + 2) ls (.ref q :: r)) hE hP1 hD1 (fun hq => ?_)
    subst hq
    have e1 : (mS (wN h 15 n.toNatClampNeg) (mE h)) = (15, n.toNatClampNeg) := by rw [wN_S, if_pos rfl]
    exact kk H1 _ (hR.push (by omega) (by rw [mce_long (by rw [e1]), e1, wN_J, if_pos rfl]) hP1 hS1)
theorem s_newq (C : mCx M dp lim p R s m args meth c) (hT : mGT T) {i kd : Nat} {n : Int32} (hR : mRel D cA ad B h s H locs) (hE : mE h = s.heap.size + z1) (hd : decode (mMc M) pc = .ok (.anewarray i, 3)) (ht : tAnw T (mMo M) i = some kd) (hn : ¬ n < 0) (hN : n.toNatClampNeg ≤ 4096) (hc1 : z1 + 1 ≤ lim.1) (hc2 : z2 + n.toNatClampNeg ≤ lim.2)
    (kk : ∀ H1 locs1, mRel D cA ad B (wN h kd n.toNatClampNeg) s H1 locs1 → W p l e R s m args below meth c H1 locs1 (z1 + 1) (z2 + n.toNatClampNeg) Qw (F0 m (pc + 3) ls (.ref (mE h) :: r))) : W p l e R s m args below meth c H locs z1 z2 Qw (F0 m pc ls (.int n :: r)) := by
  obtain ⟨hK, hP, hG, hS, hB, h2⟩ := id hR
  obtain ⟨hx, hb, hr, hml, hown, hts, hlk, hnm, q1, q2, q3, q4, q5⟩ := C
  obtain ⟨g1, g2, Cn, g3, g4⟩ := hT.2.2.2.2.2.1 _ _ _ ht
  obtain ⟨Cm, e3, hao⟩ := h2.2.2.2.1 kd g1 g2
  have e4 : Cm = Cn := by rw [g3] at e3; injection e3 with e3; exact e3.symm
  subst e4
  refine va_newq hx hb hown (hts _ g4) hao hK hP (mwl_D cA B h) hS (fun q hq => Nat.le_trans hB hq) hn rfl (by omega) (by rw [q1]; exact hc1) (by rw [q2]; exact hc2) hd (fun q cB H1 hK1 hP1 hD1 hS1 => ?_)
  have h3 := (hK.2 _ _ (mtys_get cA (show 13 ≤ kd by omega) g2)).2
  rw [g3] at h3
  obtain ⟨_, _, _, _, _, f1⟩ := h3
  obtain ⟨_, _, _, _, _, f2⟩ := (hK1.2 8 (cB, .object Cm) rfl).2
  obtain rfl : cB = cA kd := Option.some.inj (f2.symm.trans f1)
  refine mGrow (g := fun q => F0 m (pc + 3) ls (.ref q :: r)) hE hP1 hD1 (fun hq => ?_)
  subst hq
  have e1 : (mS (wN h kd n.toNatClampNeg) (mE h)) = (kd, n.toNatClampNeg) := by rw [wN_S, if_pos rfl]
  exact kk H1 _ (hR.push g2 (by rw [mce_ref (k := kd) (by rw [e1]) g1, e1, wN_R, if_pos rfl]) hP1 hS1)
theorem s_cpy (C : mCx M dp lim p R s m args meth c) (hT : mGT T) (hW : mGW) {N : mM} {i a a0 : Nat} {n dp' sp : Int32} (hls : ls.size = mMl M) (hR : mRel D cA ad B h s H locs) (hd : decode (mMc M) pc = .ok (.invokestatic i, 3)) (ht : tMet T (mMo M) i = some (5, N)) (hr8 : (r.map fun v => v.category).sum ≤ 8) (hk : (mS h a).1 = 13 ∨ (mS h a).1 = 14) (hk0 : (mS h a0).1 = (mS h a).1) (g1 : ¬ sp < 0) (g2 : ¬ dp' < 0) (g3 : ¬ n < 0) (g4 : sp.toNatClampNeg + n.toNatClampNeg ≤ (mS h a0).2) (g5 : dp'.toNatClampNeg + n.toNatClampNeg ≤ (mS h a).2) (g6 : ∀ i, i < n.toNatClampNeg → fits (mat (mS h a).1) (.int (mI h a0 (sp.toNatClampNeg + i))) = true)
    (kk : ∀ H1 locs1, mRel D cA ad B (wA h a (va_cpy (mI h a0) (mI h a) sp.toNatClampNeg dp'.toNatClampNeg n.toNatClampNeg)) s H1 locs1 → W p l e R s m args below meth c H1 locs1 z1 z2 Qw (F0 m (pc + 3) ls r)) : W p l e R s m args below meth c H locs z1 z2 Qw (F0 m pc ls (.int n :: .int dp' :: .ref a :: .int sp :: .ref a0 :: r)) := by
  obtain ⟨hK, hP, hG, hS, hB, h2⟩ := id hR
  obtain ⟨hx, hb, hr, hml, hown, hts, hlk, hnm, q1, q2, q3, q4, q5⟩ := C
  have hl := hT.2.2.2.2.2.2.2.2.2.2.2.2.1 _ _ _ ht
  have ha : (mS h a).1 < 21 := by omega
  obtain ⟨b1, b2⟩ := hG.2 a ha
  obtain ⟨c1, c2⟩ := hG.2 a0 (by omega)
  have hk3 : (mS h a).1 = 13 ∨ (mS h a).1 = 14 ∨ (mS h a).1 = 16 := by omega
  have he : (mwl cA B h)[a - B]? = some (a, .inl (cA (mS h a).1, (mS h a).2, .inl (mI h a))) := by rw [mwl_get b1 b2, mce_int rfl hk3]
  have he0 : (mwl cA B h)[a0 - B]? = some (a0, .inl (cA (mS h a).1, (mS h a0).2, .inl (mI h a0))) := by rw [mwl_get c1 c2, mce_int hk0 hk3]
  have hm := mtys_get cA (show 13 ≤ (mS h a).1 by omega) ha
  have hc2 : mce cA (wA h a (va_cpy (mI h a0) (mI h a) sp.toNatClampNeg dp'.toNatClampNeg n.toNatClampNeg)) a = .inl (cA (mS h a).1, (mS h a).2, .inl (va_cpy (mI h a0) (mI h a) sp.toNatClampNeg dp'.toNatClampNeg n.toNatClampNeg)) := by
    rw [mce_int (h := wA h a _) (k := (mS h a).1) rfl hk3, mI_wA_self]
    rfl
  have hw : nativeFrameWords "java/lang/System" "arraycopy" 5 ≤ 80 := by decide +kernel
  exact va_copyi hx hb (by rw [hml, hls]) hown (hts _ hl) (hts _ hW.2.2.1.1) (hts _ hW.2.2.1.2.1) (hts _ hW.2.2.1.2.2) hK hP (mwl_D cA B h) hS (a0 - B) (a - B) ((mS h a).1 - 13) ((mS h a).1 - 13) he0 he hm hm (by rcases hk with q | q <;> rw [q] <;> rfl) g1 g2 g3 g4 g5 g6 (by omega) (by omega) hd (fun H1 locs1 hP1 _ hS1 => kk H1 locs1 (hR.one ha (mOne_wA _ _ _) hc2 hP1 hS1))
theorem s_obj (C : mCx M dp lim p R s m args meth c) (hT : mGT T) (hW : mGW) {N : mM} {i a : Nat} (hls : ls.size = mMl M) (hd : decode (mMc M) pc = .ok (.invokespecial i, 3)) (ht : tMet T (mMo M) i = some (4, N)) (hr8 : (r.map fun v => v.category).sum ≤ 8)
    (kk : W p l e R s m args below meth c H locs z1 z2 Qw (F0 m (pc + 3) ls r)) : W p l e R s m args below meth c H locs z1 z2 Qw (F0 m pc ls (.ref a :: r)) := by
  obtain ⟨hx, hb, hr, hml, hown, hts, hlk, hnm, q1, q2, q3, q4, q5⟩ := C
  have hl := hT.2.2.2.2.2.2.2.2.2.2.2.1 _ _ _ ht
  exact W.objInit hx hb hown (hts _ hl) (hts _ hW.2.1.1) (hts _ hW.2.1.2) rfl (by rw [hml]; exact hls) rfl hd (by omega) (by show 2 * 0 + _ + 12 ≤ _; omega) kk
theorem s_m10 (C : mCx M dp lim p R s m args meth c) (hT : mGT T) (hW : mGW) {N : mM} {i : Nat} {x y : Int32} (hls : ls.size = mMl M) (hd : decode (mMc M) pc = .ok (.invokestatic i, 3)) (ht : tMet T (mMo M) i = some (10, N)) (hr8 : (r.map fun v => v.category).sum ≤ 8) (h1 : z1 ≤ lim.1) (h2 : z2 ≤ lim.2)
    (kk : W p l e R s m args below meth c H locs z1 z2 Qw (F0 m (pc + 3) ls (.int (if x < y then y else x) :: r))) : W p l e R s m args below meth c H locs z1 z2 Qw (F0 m pc ls (.int y :: .int x :: r)) := by
  obtain ⟨hx, hb, hr, hml, hown, hts, hlk, hnm, q1, q2, q3, q4, q5⟩ := C
  have hl := hT.2.2.2.2.2.2.2.2.2.2.2.2.2.1 _ _ _ ht
  exact va_mmax hx hb (by rw [hml, hls]) hown (hts _ hl) (hts _ hW.2.2.2.2.2.1.1) (hts _ hW.2.2.2.2.1) (hts _ hW.2.2.2.2.2.1.2) (by omega) (by omega) (by rw [q1]; exact h1) (by rw [q2]; exact h2) hd kk
theorem s_m11 (C : mCx M dp lim p R s m args meth c) (hT : mGT T) (hW : mGW) {N : mM} {i : Nat} {x y : Int32} (hls : ls.size = mMl M) (hd : decode (mMc M) pc = .ok (.invokestatic i, 3)) (ht : tMet T (mMo M) i = some (11, N)) (hr8 : (r.map fun v => v.category).sum ≤ 8) (h1 : z1 ≤ lim.1) (h2 : z2 ≤ lim.2)
    (kk : W p l e R s m args below meth c H locs z1 z2 Qw (F0 m (pc + 3) ls (.int (if y < x then y else x) :: r))) : W p l e R s m args below meth c H locs z1 z2 Qw (F0 m pc ls (.int y :: .int x :: r)) := by
  obtain ⟨hx, hb, hr, hml, hown, hts, hlk, hnm, q1, q2, q3, q4, q5⟩ := C
  have hl := hT.2.2.2.2.2.2.2.2.2.2.2.2.2.2.1 _ _ _ ht
  exact va_mmin hx hb (by rw [hml, hls]) hown (hts _ hl) (hts _ hW.2.2.2.2.2.2.1.1) (hts _ hW.2.2.2.2.1) (hts _ hW.2.2.2.2.2.2.1.2) (by omega) (by omega) (by rw [q1]; exact h1) (by rw [q2]; exact h2) hd kk
theorem s_m12 (C : mCx M dp lim p R s m args meth c) (hT : mGT T) (hW : mGW) {N : mM} {i : Nat} {x : Int32} (hls : ls.size = mMl M) (hd : decode (mMc M) pc = .ok (.invokestatic i, 3)) (ht : tMet T (mMo M) i = some (12, N)) (hr8 : (r.map fun v => v.category).sum ≤ 8) (h1 : z1 ≤ lim.1) (h2 : z2 ≤ lim.2)
    (kk : W p l e R s m args below meth c H locs z1 z2 Qw (F0 m (pc + 3) ls (.int (if 0 ≤ x then x else 0 - x) :: r))) : W p l e R s m args below meth c H locs z1 z2 Qw (F0 m pc ls (.int x :: r)) := by
  obtain ⟨hx, hb, hr, hml, hown, hts, hlk, hnm, q1, q2, q3, q4, q5⟩ := C
  have hl := hT.2.2.2.2.2.2.2.2.2.2.2.2.2.2.2.1 _ _ _ ht
  exact va_mabs hx hb (by rw [hml, hls]) hown (hts _ hl) (hts _ hW.2.2.2.2.2.2.2.1.1) (hts _ hW.2.2.2.2.1) (hts _ hW.2.2.2.2.2.2.2.1.2) (by omega) (by omega) (by rw [q1]; exact h1) (by rw [q2]; exact h2) hd kk
theorem s_m13 (C : mCx M dp lim p R s m args meth c) (hT : mGT T) (hW : mGW) {N : mM} {i : Nat} {x : Int64} (hls : ls.size = mMl M) (hd : decode (mMc M) pc = .ok (.invokestatic i, 3)) (ht : tMet T (mMo M) i = some (13, N)) (hr8 : (r.map fun v => v.category).sum ≤ 8) (h1 : z1 ≤ lim.1) (h2 : z2 ≤ lim.2)
    (kk : W p l e R s m args below meth c H locs z1 z2 Qw (F0 m (pc + 3) ls (.long (if 0 < x then x else -x) :: r))) : W p l e R s m args below meth c H locs z1 z2 Qw (F0 m pc ls (.long x :: r)) := by
  obtain ⟨hx, hb, hr, hml, hown, hts, hlk, hnm, q1, q2, q3, q4, q5⟩ := C
  have hl := hT.2.2.2.2.2.2.2.2.2.2.2.2.2.2.2.2.1 _ _ _ ht
  exact va_mabs_long hx hb (by rw [hml, hls]) hown (hts _ hl) (hts _ hW.2.2.2.2.2.2.2.2.1.1) (hts _ hW.2.2.2.2.1) (hts _ hW.2.2.2.2.2.2.2.2.1.2) (by omega) (by omega) (by rw [q1]; exact h1) (by rw [q2]; exact h2) hd kk
theorem s_m14 (C : mCx M dp lim p R s m args meth c) (hT : mGT T) (hW : mGW) {N : mM} {i : Nat} {x y : Int64} (hls : ls.size = mMl M) (hd : decode (mMc M) pc = .ok (.invokestatic i, 3)) (ht : tMet T (mMo M) i = some (14, N)) (hr8 : (r.map fun v => v.category).sum ≤ 8) (h1 : z1 ≤ lim.1) (h2 : z2 ≤ lim.2)
    (kk : W p l e R s m args below meth c H locs z1 z2 Qw (F0 m (pc + 3) ls (.long (if y < x then x else y) :: r))) : W p l e R s m args below meth c H locs z1 z2 Qw (F0 m pc ls (.long y :: .long x :: r)) := by
  obtain ⟨hx, hb, hr, hml, hown, hts, hlk, hnm, q1, q2, q3, q4, q5⟩ := C
  have hl := hT.2.2.2.2.2.2.2.2.2.2.2.2.2.2.2.2.2 _ _ _ ht
  exact va_mmax_long hx hb (by rw [hml, hls]) hown (hts _ hl) (hts _ hW.2.2.2.2.2.2.2.2.2.1) (hts _ hW.2.2.2.2.1) (hts _ hW.2.2.2.2.2.2.2.2.2.2) (by omega) (by omega) (by rw [q1]; exact h1) (by rw [q2]; exact h2) hd kk
end Alc
