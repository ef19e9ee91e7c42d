/-! IMAGES: a new Told -/
/-! IMAGES: a new Told beside what stands -/
def old (h0 h : mH) (B : Nat) : Prop := ∀ b, b < B → mS h b = mS h0 b ∧ mI h b = mI h0 b ∧ mJ h b = mJ h0 b ∧ mR h b = mR h0 b
def hq (h0 h : mH) (B : Nat) (P S : List mCe) : Prop := hp h B P S ∧ old h0 h B
theorem old_one {h0 h h' : mH} {B a : Nat} (o : old h0 h B) (m : mOne (B + a) h h') : old h0 h' B := fun b hb => by
  obtain ⟨a1, a2, a3, a4⟩ := o b hb
  obtain ⟨g1, g2, g3⟩ := m.2.2 b (by omega)
  exact ⟨(m.2.1 b).trans a1, g1.trans a2, g2.trans a3, g3.trans a4⟩
theorem old_new {h0 h : mH} {B : Nat} (o : old h0 h B) (hB : B ≤ mE h) (kd n : Nat) : old h0 (wN h kd n) B := fun b hb => by
  obtain ⟨a1, a2, a3, a4⟩ := o b hb
  have hne : b ≠ mE h := by omega
  exact ⟨by rw [wN_S, if_neg hne]; exact a1, by rw [wN_I, if_neg hne]; exact a2, by rw [wN_J, if_neg hne]; exact a3, by rw [wN_R, if_neg hne]; exact a4⟩
theorem old_r (h : mH) (B : Nat) : old h h B := fun b hb => ⟨rfl, rfl, rfl, rfl⟩
section KwRow
variable {T : mTb} {ad : mA} {M : mM} {dp : Nat} {lim : Nat × Nat} {d : Nat} {cal : mC} {Q : mZ} {pc : Nat} {L : mL} {h0 h : mH} {z : Nat × Nat} {r st : List Value} {B : Nat} {P S : List mCe}
theorem kw_new {i c : Nat} (hh : hq h0 h B P S) (hd : decode (mMc M) pc = .ok (.new i, 3)) (ht : tCls T (mMo M) i = some c) (c1 : z.1 + 1 ≤ lim.1) (c2 : z.2 + mnf c ≤ lim.2) (k : ∀ h', hq h0 h' B P (S ++ [(c, 0, 0, [], [], [])]) → mEv T ad M dp lim cal Q (pc + 3) L (.ref (B + (P.length + S.length)) :: st) h' (z.1 + 1, z.2 + mnf c)) : mEv T ad M dp lim cal Q pc L st h z := by
  refine e_new hd ht c1 c2 ?_
  rw [hh.1.1]
  exact k _ ⟨hh.1.new c 0, old_new hh.2 (by rw [hh.1.1]; omega) c 0⟩
theorem kw_newa {t : ArrayType} {n : Int32} (kd N : Nat) (hh : hq h0 h B P S) (hd : decode (mMc M) pc = .ok (.newarray t, 2)) (ht : mArk t = some kd) (hn : ¬ n < 0) (hN : n.toNatClampNeg = N) (hN2 : N ≤ 4096) (c1 : z.1 + 1 ≤ lim.1) (c2 : z.2 + N ≤ lim.2) (k : ∀ h', hq h0 h' B P (S ++ [(kd, N, 0, [], [], [])]) → mEv T ad M dp lim cal Q (pc + 2) L (.ref (B + (P.length + S.length)) :: r) h' (z.1 + 1, z.2 + N)) : mEv T ad M dp lim cal Q pc L (.int n :: r) h z := by
  refine e_newa kd N hd ht hn hN hN2 c1 c2 ?_
  rw [hh.1.1]
  exact k _ ⟨hh.1.new kd N, old_new hh.2 (by rw [hh.1.1]; omega) kd N⟩
theorem kw_newq {i : Nat} {n : Int32} (kd N : Nat) (hh : hq h0 h B P S) (hd : decode (mMc M) pc = .ok (.anewarray i, 3)) (ht : tAnw T (mMo M) i = some kd) (hn : ¬ n < 0) (hN : n.toNatClampNeg = N) (hN2 : N ≤ 4096) (c1 : z.1 + 1 ≤ lim.1) (c2 : z.2 + N ≤ lim.2) (k : ∀ h', hq h0 h' B P (S ++ [(kd, N, 0, [], [], [])]) → mEv T ad M dp lim cal Q (pc + 3) L (.ref (B + (P.length + S.length)) :: r) h' (z.1 + 1, z.2 + N)) : mEv T ad M dp lim cal Q pc L (.int n :: r) h z := by
  refine e_newq kd N hd ht hn hN hN2 c1 c2 ?_
  rw [hh.1.1]
  exact k _ ⟨hh.1.new kd N, old_new hh.2 (by rw [hh.1.1]; omega) kd N⟩
theorem kw_putI {q i c j n : Nat} {x f : Int32} {is : List Int32} {js : List Int64} {rs : List (Option Nat)} (hh : hq h0 h B P S) (hd : decode (mMc M) pc = .ok (.putfield i, 3)) (ht : tFld T (mMo M) i = some (c, j)) (hc : S[q]? = some (c, n, f, is, js, rs)) (hy : mty c j = .int) (hfin : (mTT c j).2.2.2 = false ∨ ((mMn M).name = "<init>" ∧ c = mMo M)) (k : ∀ h', hq h0 h' B P (S.set q (c, n, f, ps f is j x, js, rs)) → mEv T ad M dp lim cal Q (pc + 3) L r h' z) : mEv T ad M dp lim cal Q pc L (.int x :: .ref (B + (P.length + q)) :: r) h z :=
  e_putI hd ht (by rw [(hh.1.at hc).1]) hy hfin (k _ ⟨hh.1.putI hc, old_one hh.2 (mOne_wI _ _ _ _)⟩)
theorem kw_putR {q i c j n b : Nat} {f : Int32} {is : List Int32} {js : List Int64} {rs : List (Option Nat)} {ty : FieldType} (hh : hq h0 h B P S) (hd : decode (mMc M) pc = .ok (.putfield i, 3)) (ht : tFld T (mMo M) i = some (c, j)) (hc : S[q]? = some (c, n, f, is, js, rs)) (hy : mty c j = ty) (hty : (∃ n, ty = .object n) ∨ ∃ t, ty = .array t) (hfin : (mTT c j).2.2.2 = false ∨ ((mMn M).name = "<init>" ∧ c = mMo M)) (k : ∀ h', hq h0 h' B P (S.set q (c, n, f, is, js, ps none rs j (some b))) → mEv T ad M dp lim cal Q (pc + 3) L r h' z) : mEv T ad M dp lim cal Q pc L (.ref (B + b) :: .ref (B + (P.length + q)) :: r) h z :=
  e_putR hd ht (by rw [(hh.1.at hc).1]) hy hty hfin (k _ ⟨hh.1.putR hc, old_one hh.2 (mOne_wR _ _ _ _)⟩)
theorem kw_ast {q n kd b kc : Nat} {x f : Int32} {is : List Int32} {js : List Int64} {rs : List (Option Nat)} {nc : Nat} {fc : Int32} {ic : List Int32} {jc : List Int64} {rc : List (Option Nat)} (qb j : Nat) (hh : hq h0 h B P S) (hd : decode (mMc M) pc = .ok (.aastore, 1)) (hc : S[q]? = some (kd, n, f, is, js, rs)) (h17 : 17 ≤ kd) (h21 : kd < 21) (hb : S[qb]? = some (kc, nc, fc, ic, jc, rc)) (hbb : b = P.length + qb) (hkc : kc < 13) (hm : mat kd = .object (mCn kc)) (hi : vp_in x n) (hj : x.toNatClampNeg = j) (k : ∀ h', hq h0 h' B P (S.set q (kd, n, f, is, js, ps none rs j (some b))) → mEv T ad M dp lim cal Q (pc + 1) L r h' z) : mEv T ad M dp lim cal Q pc L (.ref (B + b) :: .int x :: .ref (B + (P.length + q)) :: r) h z := by
  subst hbb
  exact e_ast j hd (hh.1.at hc).1 h17 h21 (hh.1.at hb).1 hkc hm hi hj (k _ ⟨hh.1.putR hc, old_one hh.2 (mOne_wR _ _ _ _)⟩)
theorem kw_getR {q i c j n b : Nat} {f : Int32} {is : List Int32} {js : List Int64} {rs : List (Option Nat)} (hh : hq h0 h B P S) (hd : decode (mMc M) pc = .ok (.getfield i, 3)) (ht : tFld T (mMo M) i = some (c, j)) (hc : S[q]? = some (c, n, f, is, js, rs)) (hv : mfv h (B + (P.length + q)) c j = va_rf (mR h (B + (P.length + q)) j)) (hb : rs.getD j none = some b) (k : mEv T ad M dp lim cal Q (pc + 3) L (.ref (B + b) :: r) h z) : mEv T ad M dp lim cal Q pc L (.ref (B + (P.length + q)) :: r) h z := k_getR hh.1 hd ht hc hv hb k
theorem kw_fill {i : Nat} {q n : Nat} {v f : Int32} {js : List Int64} {rs : List (Option Nat)} (hh : hq h0 h B P S) (hd : decode (mMc M) pc = .ok (.invokestatic i, 3)) (ht : tMet TB0 (mMo M) i = some (1, M_J7_fill_53178)) (h8 : (r.map fun v => v.category).sum ≤ 8) (hc : S[q]? = some (14, n, f, [], js, rs)) (hn : n < 2 ^ 31) (z1 : z.1 ≤ lim.1) (z2 : z.2 ≤ lim.2) (k : ∀ h', hq h0 h' B P (S.set q (14, n, v, [], js, rs)) → mEv TB0 ad M dp lim (mCal TB0 ad (d + 1)) Q (pc + 3) L r h' z) : mEv TB0 ad M dp lim (mCal TB0 ad (d + 1)) Q pc L (.int v :: .ref (B + (P.length + q)) :: r) h z :=
  e_callS [.ref (B + (P.length + q)), .int v] hd ht rfl h8 z1 z2 rfl (sp_fill (hh.1.at hc).1 hn (k _ ⟨hh.1.fill hc, old_one hh.2 (mOne_wA _ _ _)⟩))
def mKw (ad : mA) (d B : Nat) (N : mM) (c mc ms : Nat) (R : Nat → List mCe) : Prop := ∀ (P : List mCe) (h0 h : mH) (Q : mQ), hq h0 h B P [(c, 0, 0, [], [], [])] → (∀ h', hq h0 h' B P (R P.length) → Q none h') → mCal TB0 ad d N [.ref (B + P.length)] h mc ms Q
theorem kw_ctor {N : mM} {i c mc ms : Nat} {R : Nat → List mCe} (hh : hq h0 h B P (S ++ [(c, 0, 0, [], [], [])])) (hd : decode (mMc M) pc = .ok (.invokespecial i, 3)) (ht : tMet TB0 (mMo M) i = some (2, N) ∨ tMet TB0 (mMo M) i = some (3, N)) (hA : 0 = mMp N) (h8 : (r.map fun v => v.category).sum ≤ 8) (c1 : z.1 + mc ≤ lim.1) (c2 : z.2 + ms ≤ lim.2) (hN : mKw ad d B N c mc ms R) (k : ∀ h', hq h0 h' B P (S ++ R (P.length + S.length)) → mEv TB0 ad M dp lim (mCal TB0 ad d) Q (pc + 3) L r h' (z.1 + mc, z.2 + ms)) : mEv TB0 ad M dp lim (mCal TB0 ad d) Q pc L (.ref (B + (P.length + S.length)) :: r) h z := by
  refine e_callI [] hd ht hA h8 c1 c2 rfl ?_
  have h1 := hN (P ++ S) h0 h (fun v h' => mEv TB0 ad M dp lim (mCal TB0 ad d) Q (pc + 3) L (v.toList ++ r) h' (z.1 + mc, z.2 + ms)) ⟨hh.1.assoc, hh.2⟩ (fun h' hh' => k h' ⟨by have := hh'.1.back; rw [List.length_append] at this; exact this, hh'.2⟩)
  rw [List.length_append] at h1
  exact h1
end KwRow
set_option maxHeartbeats 4000000 in
set_option maxRecDepth 20000 in
theorem kw_X0_init (ad : mA) (d B : Nat) : mKw ad (d + 2) B M_X0_init 0 5 30 R_X0_init := by
  intro P h0 h Q hh kq
  refine ⟨Nat.le_of_ble_eq_true rfl, ?_⟩
  show mEv _ _ _ _ _ _ _ 0 [some (.ref (B + (P.length + 0)))] [] _ _
  refine e_aload_n dX0_init_0 rfl ?_
  refine e_obj dX0_init_1 tm_0_3 (Nat.le_of_ble_eq_true rfl) ?_
  refine e_aload_n dX0_init_4 rfl ?_
  refine e_bipush 6 dX0_init_5 rfl ?_
  refine kw_newa 14 6 hh dX0_init_7 rfl (by decide) (by decide) (Nat.le_of_ble_eq_true rfl) (Nat.le_of_ble_eq_true rfl) (Nat.le_of_ble_eq_true rfl) (fun h hh => ?_)
  have hh : hq h0 h B P [(0, 0, 0, [], [], []), (14, 6, 0, [], [], [])] := hh
  refine kw_putR (q := 0) hh dX0_init_9 tf_0_9 rfl rfl (Or.inr ⟨_, rfl⟩) (Or.inr ⟨rfl, rfl⟩) (fun h hh => ?_)
  have hh : hq h0 h B P [(0, 0, 0, [], [], [some (P.length + 1)]), (14, 6, 0, [], [], [])] := hh
  refine e_aload_n dX0_init_12 rfl ?_
  refine e_bipush 6 dX0_init_13 rfl ?_
  refine kw_newa 14 6 hh dX0_init_15 rfl (by decide) (by decide) (Nat.le_of_ble_eq_true rfl) (Nat.le_of_ble_eq_true rfl) (Nat.le_of_ble_eq_true rfl) (fun h hh => ?_)
  have hh : hq h0 h B P [(0, 0, 0, [], [], [some (P.length + 1)]), (14, 6, 0, [], [], []), (14, 6, 0, [], [], [])] := hh
  refine kw_putR (q := 0) hh dX0_init_17 tf_0_15 rfl rfl (Or.inr ⟨_, rfl⟩) (Or.inr ⟨rfl, rfl⟩) (fun h hh => ?_)
  have hh : hq h0 h B P [(0, 0, 0, [], [], [some (P.length + 1), some (P.length + 2)]), (14, 6, 0, [], [], []), (14, 6, 0, [], [], [])] := hh
  refine e_aload_n dX0_init_20 rfl ?_
  refine e_bipush 6 dX0_init_21 rfl ?_
  refine kw_newa 14 6 hh dX0_init_23 rfl (by decide) (by decide) (Nat.le_of_ble_eq_true rfl) (Nat.le_of_ble_eq_true rfl) (Nat.le_of_ble_eq_true rfl) (fun h hh => ?_)
  have hh : hq h0 h B P [(0, 0, 0, [], [], [some (P.length + 1), some (P.length + 2)]), (14, 6, 0, [], [], []), (14, 6, 0, [], [], []), (14, 6, 0, [], [], [])] := hh
  refine kw_putR (q := 0) hh dX0_init_25 tf_0_18 rfl rfl (Or.inr ⟨_, rfl⟩) (Or.inr ⟨rfl, rfl⟩) (fun h hh => ?_)
  have hh : hq h0 h B P [(0, 0, 0, [], [], [some (P.length + 1), some (P.length + 2), some (P.length + 3)]), (14, 6, 0, [], [], []), (14, 6, 0, [], [], []), (14, 6, 0, [], [], [])] := hh
  refine e_aload_n dX0_init_28 rfl ?_
  refine e_bipush 6 dX0_init_29 rfl ?_
  refine kw_newa 14 6 hh dX0_init_31 rfl (by decide) (by decide) (Nat.le_of_ble_eq_true rfl) (Nat.le_of_ble_eq_true rfl) (Nat.le_of_ble_eq_true rfl) (fun h hh => ?_)
  have hh : hq h0 h B P [(0, 0, 0, [], [], [some (P.length + 1), some (P.length + 2), some (P.length + 3)]), (14, 6, 0, [], [], []), (14, 6, 0, [], [], []), (14, 6, 0, [], [], []), (14, 6, 0, [], [], [])] := hh
  refine kw_putR (q := 0) hh dX0_init_33 tf_0_21 rfl rfl (Or.inr ⟨_, rfl⟩) (Or.inr ⟨rfl, rfl⟩) (fun h hh => ?_)
  have hh : hq h0 h B P [(0, 0, 0, [], [], [some (P.length + 1), some (P.length + 2), some (P.length + 3), some (P.length + 4)]), (14, 6, 0, [], [], []), (14, 6, 0, [], [], []), (14, 6, 0, [], [], []), (14, 6, 0, [], [], [])] := hh
  refine e_aload_n dX0_init_36 rfl ?_
  refine e_bipush 6 dX0_init_37 rfl ?_
  refine kw_newa 14 6 hh dX0_init_39 rfl (by decide) (by decide) (Nat.le_of_ble_eq_true rfl) (Nat.le_of_ble_eq_true rfl) (Nat.le_of_ble_eq_true rfl) (fun h hh => ?_)
  have hh : hq h0 h B P [(0, 0, 0, [], [], [some (P.length + 1), some (P.length + 2), some (P.length + 3), some (P.length + 4)]), (14, 6, 0, [], [], []), (14, 6, 0, [], [], []), (14, 6, 0, [], [], []), (14, 6, 0, [], [], []), (14, 6, 0, [], [], [])] := hh
  refine kw_putR (q := 0) hh dX0_init_41 tf_0_24 rfl rfl (Or.inr ⟨_, rfl⟩) (Or.inr ⟨rfl, rfl⟩) (fun h hh => ?_)
  have hh : hq h0 h B P [(0, 0, 0, [], [], [some (P.length + 1), some (P.length + 2), some (P.length + 3), some (P.length + 4), some (P.length + 5)]), (14, 6, 0, [], [], []), (14, 6, 0, [], [], []), (14, 6, 0, [], [], []), (14, 6, 0, [], [], []), (14, 6, 0, [], [], [])] := hh
  refine e_aload_n dX0_init_44 rfl ?_
  refine e_iconst 0 dX0_init_45 rfl ?_
  refine kw_putI (q := 0) hh dX0_init_46 tf_0_27 rfl rfl (Or.inl rfl) (fun h hh => ?_)
  have hh : hq h0 h B P [(0, 0, 0, [0, 0, 0, 0, 0, 0], [], [some (P.length + 1), some (P.length + 2), some (P.length + 3), some (P.length + 4), some (P.length + 5)]), (14, 6, 0, [], [], []), (14, 6, 0, [], [], []), (14, 6, 0, [], [], []), (14, 6, 0, [], [], []), (14, 6, 0, [], [], [])] := hh
  refine e_aload_n dX0_init_49 rfl ?_
  refine kw_getR (q := 0) hh dX0_init_50 tf_0_24 rfl rfl rfl ?_
  refine e_iconst (-1) dX0_init_53 rfl ?_
  refine kw_fill (q := 5) hh dX0_init_54 tm_0_31 (Nat.le_of_ble_eq_true rfl) rfl (by decide) (Nat.le_of_ble_eq_true rfl) (Nat.le_of_ble_eq_true rfl) (fun h hh => ?_)
  have hh : hq h0 h B P [(0, 0, 0, [0, 0, 0, 0, 0, 0], [], [some (P.length + 1), some (P.length + 2), some (P.length + 3), some (P.length + 4), some (P.length + 5)]), (14, 6, 0, [], [], []), (14, 6, 0, [], [], []), (14, 6, 0, [], [], []), (14, 6, 0, [], [], []), (14, 6, (-1), [], [], [])] := hh
  exact e_vret dX0_init_57 rfl ⟨rfl, kq _ hh⟩
set_option maxHeartbeats 4000000 in
set_option maxRecDepth 20000 in
theorem kw_X2_init (ad : mA) (d B : Nat) : mKw ad (d + 3) B M_X2_init 2 15 90 R_X2_init := by
  intro P h0 h Q hh kq
  refine ⟨Nat.le_of_ble_eq_true rfl, ?_⟩
  show mEv _ _ _ _ _ _ _ 0 [some (.ref (B + (P.length + 0)))] [] _ _
  refine e_aload_n dX2_init_0 rfl ?_
  refine e_obj dX2_init_1 tm_2_3 (Nat.le_of_ble_eq_true rfl) ?_
  refine e_aload_n dX2_init_4 rfl ?_
  refine kw_new hh dX2_init_5 tc_2_9 (Nat.le_of_ble_eq_true rfl) (Nat.le_of_ble_eq_true rfl) (fun h hh => ?_)
  have hh : hq h0 h B P [(2, 0, 0, [], [], []), (0, 0, 0, [], [], [])] := hh
  refine e_dup dX2_init_8 rfl ?_
  refine kw_ctor hh dX2_init_9 (Or.inl tm_2_11) rfl (Nat.le_of_ble_eq_true rfl) (Nat.le_of_ble_eq_true rfl) (Nat.le_of_ble_eq_true rfl) (kw_X0_init ad _ B) (fun h hh => ?_)
  have hh : hq h0 h B P [(2, 0, 0, [], [], []), (0, 0, 0, [0, 0, 0, 0, 0, 0], [], [some (P.length + 2), some (P.length + 3), some (P.length + 4), some (P.length + 5), some (P.length + 6)]), (14, 6, 0, [], [], []), (14, 6, 0, [], [], []), (14, 6, 0, [], [], []), (14, 6, 0, [], [], []), (14, 6, (-1), [], [], [])] := hh
  refine kw_putR (q := 0) hh dX2_init_12 tf_2_12 rfl rfl (Or.inl ⟨_, rfl⟩) (Or.inr ⟨rfl, rfl⟩) (fun h hh => ?_)
  have hh : hq h0 h B P [(2, 0, 0, [], [], [some (P.length + 1)]), (0, 0, 0, [0, 0, 0, 0, 0, 0], [], [some (P.length + 2), some (P.length + 3), some (P.length + 4), some (P.length + 5), some (P.length + 6)]), (14, 6, 0, [], [], []), (14, 6, 0, [], [], []), (14, 6, 0, [], [], []), (14, 6, 0, [], [], []), (14, 6, (-1), [], [], [])] := hh
  refine e_aload_n dX2_init_15 rfl ?_
  refine kw_new hh dX2_init_16 tc_2_9 (Nat.le_of_ble_eq_true rfl) (Nat.le_of_ble_eq_true rfl) (fun h hh => ?_)
  have hh : hq h0 h B P [(2, 0, 0, [], [], [some (P.length + 1)]), (0, 0, 0, [0, 0, 0, 0, 0, 0], [], [some (P.length + 2), some (P.length + 3), some (P.length + 4), some (P.length + 5), some (P.length + 6)]), (14, 6, 0, [], [], []), (14, 6, 0, [], [], []), (14, 6, 0, [], [], []), (14, 6, 0, [], [], []), (14, 6, (-1), [], [], []), (0, 0, 0, [], [], [])] := hh
  refine e_dup dX2_init_19 rfl ?_
  refine kw_ctor hh dX2_init_20 (Or.inl tm_2_11) rfl (Nat.le_of_ble_eq_true rfl) (Nat.le_of_ble_eq_true rfl) (Nat.le_of_ble_eq_true rfl) (kw_X0_init ad _ B) (fun h hh => ?_)
  have hh : hq h0 h B P [(2, 0, 0, [], [], [some (P.length + 1)]), (0, 0, 0, [0, 0, 0, 0, 0, 0], [], [some (P.length + 2), some (P.length + 3), some (P.length + 4), some (P.length + 5), some (P.length + 6)]), (14, 6, 0, [], [], []), (14, 6, 0, [], [], []), (14, 6, 0, [], [], []), (14, 6, 0, [], [], []), (14, 6, (-1), [], [], []), (0, 0, 0, [0, 0, 0, 0, 0, 0], [], [some (P.length + 8), some (P.length + 9), some (P.length + 10), some (P.length + 11), some (P.length + 12)]), (14, 6, 0, [], [], []), (14, 6, 0, [], [], []), (14, 6, 0, [], [], []), (14, 6, 0, [], [], []), (14, 6, (-1), [], [], [])] := hh
  refine kw_putR (q := 0) hh dX2_init_23 tf_2_18 rfl rfl (Or.inl ⟨_, rfl⟩) (Or.inr ⟨rfl, rfl⟩) (fun h hh => ?_)
  have hh : hq h0 h B P [(2, 0, 0, [], [], [some (P.length + 1), some (P.length + 7)]), (0, 0, 0, [0, 0, 0, 0, 0, 0], [], [some (P.length + 2), some (P.length + 3), some (P.length + 4), some (P.length + 5), some (P.length + 6)]), (14, 6, 0, [], [], []), (14, 6, 0, [], [], []), (14, 6, 0, [], [], []), (14, 6, 0, [], [], []), (14, 6, (-1), [], [], []), (0, 0, 0, [0, 0, 0, 0, 0, 0], [], [some (P.length + 8), some (P.length + 9), some (P.length + 10), some (P.length + 11), some (P.length + 12)]), (14, 6, 0, [], [], []), (14, 6, 0, [], [], []), (14, 6, 0, [], [], []), (14, 6, 0, [], [], []), (14, 6, (-1), [], [], [])] := hh
  refine e_aload_n dX2_init_26 rfl ?_
  refine e_bipush 6 dX2_init_27 rfl ?_
  refine kw_newa 14 6 hh dX2_init_29 rfl (by decide) (by decide) (Nat.le_of_ble_eq_true rfl) (Nat.le_of_ble_eq_true rfl) (Nat.le_of_ble_eq_true rfl) (fun h hh => ?_)
  have hh : hq h0 h B P [(2, 0, 0, [], [], [some (P.length + 1), some (P.length + 7)]), (0, 0, 0, [0, 0, 0, 0, 0, 0], [], [some (P.length + 2), some (P.length + 3), some (P.length + 4), some (P.length + 5), some (P.length + 6)]), (14, 6, 0, [], [], []), (14, 6, 0, [], [], []), (14, 6, 0, [], [], []), (14, 6, 0, [], [], []), (14, 6, (-1), [], [], []), (0, 0, 0, [0, 0, 0, 0, 0, 0], [], [some (P.length + 8), some (P.length + 9), some (P.length + 10), some (P.length + 11), some (P.length + 12)]), (14, 6, 0, [], [], []), (14, 6, 0, [], [], []), (14, 6, 0, [], [], []), (14, 6, 0, [], [], []), (14, 6, (-1), [], [], []), (14, 6, 0, [], [], [])] := hh
  refine kw_putR (q := 0) hh dX2_init_31 tf_2_21 rfl rfl (Or.inr ⟨_, rfl⟩) (Or.inr ⟨rfl, rfl⟩) (fun h hh => ?_)
  have hh : hq h0 h B P [(2, 0, 0, [], [], [some (P.length + 1), some (P.length + 7), some (P.length + 13)]), (0, 0, 0, [0, 0, 0, 0, 0, 0], [], [some (P.length + 2), some (P.length + 3), some (P.length + 4), some (P.length + 5), some (P.length + 6)]), (14, 6, 0, [], [], []), (14, 6, 0, [], [], []), (14, 6, 0, [], [], []), (14, 6, 0, [], [], []), (14, 6, (-1), [], [], []), (0, 0, 0, [0, 0, 0, 0, 0, 0], [], [some (P.length + 8), some (P.length + 9), some (P.length + 10), some (P.length + 11), some (P.length + 12)]), (14, 6, 0, [], [], []), (14, 6, 0, [], [], []), (14, 6, 0, [], [], []), (14, 6, 0, [], [], []), (14, 6, (-1), [], [], []), (14, 6, 0, [], [], [])] := hh
  refine e_aload_n dX2_init_34 rfl ?_
  refine e_bipush 6 dX2_init_35 rfl ?_
  refine kw_newa 14 6 hh dX2_init_37 rfl (by decide) (by decide) (Nat.le_of_ble_eq_true rfl) (Nat.le_of_ble_eq_true rfl) (Nat.le_of_ble_eq_true rfl) (fun h hh => ?_)
  have hh : hq h0 h B P [(2, 0, 0, [], [], [some (P.length + 1), some (P.length + 7), some (P.length + 13)]), (0, 0, 0, [0, 0, 0, 0, 0, 0], [], [some (P.length + 2), some (P.length + 3), some (P.length + 4), some (P.length + 5), some (P.length + 6)]), (14, 6, 0, [], [], []), (14, 6, 0, [], [], []), (14, 6, 0, [], [], []), (14, 6, 0, [], [], []), (14, 6, (-1), [], [], []), (0, 0, 0, [0, 0, 0, 0, 0, 0], [], [some (P.length + 8), some (P.length + 9), some (P.length + 10), some (P.length + 11), some (P.length + 12)]), (14, 6, 0, [], [], []), (14, 6, 0, [], [], []), (14, 6, 0, [], [], []), (14, 6, 0, [], [], []), (14, 6, (-1), [], [], []), (14, 6, 0, [], [], []), (14, 6, 0, [], [], [])] := hh
  refine kw_putR (q := 0) hh dX2_init_39 tf_2_25 rfl rfl (Or.inr ⟨_, rfl⟩) (Or.inr ⟨rfl, rfl⟩) (fun h hh => ?_)
  have hh : hq h0 h B P [(2, 0, 0, [], [], [some (P.length + 1), some (P.length + 7), some (P.length + 13), some (P.length + 14)]), (0, 0, 0, [0, 0, 0, 0, 0, 0], [], [some (P.length + 2), some (P.length + 3), some (P.length + 4), some (P.length + 5), some (P.length + 6)]), (14, 6, 0, [], [], []), (14, 6, 0, [], [], []), (14, 6, 0, [], [], []), (14, 6, 0, [], [], []), (14, 6, (-1), [], [], []), (0, 0, 0, [0, 0, 0, 0, 0, 0], [], [some (P.length + 8), some (P.length + 9), some (P.length + 10), some (P.length + 11), some (P.length + 12)]), (14, 6, 0, [], [], []), (14, 6, 0, [], [], []), (14, 6, 0, [], [], []), (14, 6, 0, [], [], []), (14, 6, (-1), [], [], []), (14, 6, 0, [], [], []), (14, 6, 0, [], [], [])] := hh
  refine e_aload_n dX2_init_42 rfl ?_
  refine e_bipush 6 dX2_init_43 rfl ?_
  refine kw_newa 14 6 hh dX2_init_45 rfl (by decide) (by decide) (Nat.le_of_ble_eq_true rfl) (Nat.le_of_ble_eq_true rfl) (Nat.le_of_ble_eq_true rfl) (fun h hh => ?_)
  have hh : hq h0 h B P [(2, 0, 0, [], [], [some (P.length + 1), some (P.length + 7), some (P.length + 13), some (P.length + 14)]), (0, 0, 0, [0, 0, 0, 0, 0, 0], [], [some (P.length + 2), some (P.length + 3), some (P.length + 4), some (P.length + 5), some (P.length + 6)]), (14, 6, 0, [], [], []), (14, 6, 0, [], [], []), (14, 6, 0, [], [], []), (14, 6, 0, [], [], []), (14, 6, (-1), [], [], []), (0, 0, 0, [0, 0, 0, 0, 0, 0], [], [some (P.length + 8), some (P.length + 9), some (P.length + 10), some (P.length + 11), some (P.length + 12)]), (14, 6, 0, [], [], []), (14, 6, 0, [], [], []), (14, 6, 0, [], [], []), (14, 6, 0, [], [], []), (14, 6, (-1), [], [], []), (14, 6, 0, [], [], []), (14, 6, 0, [], [], []), (14, 6, 0, [], [], [])] := hh
  refine kw_putR (q := 0) hh dX2_init_47 tf_2_28 rfl rfl (Or.inr ⟨_, rfl⟩) (Or.inr ⟨rfl, rfl⟩) (fun h hh => ?_)
  have hh : hq h0 h B P [(2, 0, 0, [], [], [some (P.length + 1), some (P.length + 7), some (P.length + 13), some (P.length + 14), some (P.length + 15)]), (0, 0, 0, [0, 0, 0, 0, 0, 0], [], [some (P.length + 2), some (P.length + 3), some (P.length + 4), some (P.length + 5), some (P.length + 6)]), (14, 6, 0, [], [], []), (14, 6, 0, [], [], []), (14, 6, 0, [], [], []), (14, 6, 0, [], [], []), (14, 6, (-1), [], [], []), (0, 0, 0, [0, 0, 0, 0, 0, 0], [], [some (P.length + 8), some (P.length + 9), some (P.length + 10), some (P.length + 11), some (P.length + 12)]), (14, 6, 0, [], [], []), (14, 6, 0, [], [], []), (14, 6, 0, [], [], []), (14, 6, 0, [], [], []), (14, 6, (-1), [], [], []), (14, 6, 0, [], [], []), (14, 6, 0, [], [], []), (14, 6, 0, [], [], [])] := hh
  refine e_aload_n dX2_init_50 rfl ?_
  refine e_iconst 0 dX2_init_51 rfl ?_
  refine kw_putI (q := 0) hh dX2_init_52 tf_2_31 rfl rfl (Or.inl rfl) (fun h hh => ?_)
  have hh : hq h0 h B P [(2, 0, 0, [0, 0, 0, 0, 0, 0], [], [some (P.length + 1), some (P.length + 7), some (P.length + 13), some (P.length + 14), some (P.length + 15)]), (0, 0, 0, [0, 0, 0, 0, 0, 0], [], [some (P.length + 2), some (P.length + 3), some (P.length + 4), some (P.length + 5), some (P.length + 6)]), (14, 6, 0, [], [], []), (14, 6, 0, [], [], []), (14, 6, 0, [], [], []), (14, 6, 0, [], [], []), (14, 6, (-1), [], [], []), (0, 0, 0, [0, 0, 0, 0, 0, 0], [], [some (P.length + 8), some (P.length + 9), some (P.length + 10), some (P.length + 11), some (P.length + 12)]), (14, 6, 0, [], [], []), (14, 6, 0, [], [], []), (14, 6, 0, [], [], []), (14, 6, 0, [], [], []), (14, 6, (-1), [], [], []), (14, 6, 0, [], [], []), (14, 6, 0, [], [], []), (14, 6, 0, [], [], [])] := hh
  exact e_vret dX2_init_55 rfl ⟨rfl, kq _ hh⟩
set_option maxHeartbeats 4000000 in
set_option maxRecDepth 20000 in
theorem kw_X10_init (ad : mA) (d B : Nat) : mKw ad (d + 1) B M_X10_init 10 3 120 R_X10_init := by
  intro P h0 h Q hh kq
  refine ⟨Nat.le_of_ble_eq_true rfl, ?_⟩
  show mEv _ _ _ _ _ _ _ 0 [some (.ref (B + (P.length + 0)))] [] _ _
  refine e_aload_n dX10_init_0 rfl ?_
  refine e_obj dX10_init_1 tm_10_3 (Nat.le_of_ble_eq_true rfl) ?_
  refine e_aload_n dX10_init_4 rfl ?_
  refine e_bipush 40 dX10_init_5 rfl ?_
  refine kw_newa 14 40 hh dX10_init_7 rfl (by decide) (by decide) (Nat.le_of_ble_eq_true rfl) (Nat.le_of_ble_eq_true rfl) (Nat.le_of_ble_eq_true rfl) (fun h hh => ?_)
  have hh : hq h0 h B P [(10, 0, 0, [], [], []), (14, 40, 0, [], [], [])] := hh
  refine kw_putR (q := 0) hh dX10_init_9 tf_10_9 rfl rfl (Or.inr ⟨_, rfl⟩) (Or.inr ⟨rfl, rfl⟩) (fun h hh => ?_)
  have hh : hq h0 h B P [(10, 0, 0, [], [], [some (P.length + 1)]), (14, 40, 0, [], [], [])] := hh
  refine e_aload_n dX10_init_12 rfl ?_
  refine e_bipush 40 dX10_init_13 rfl ?_
  refine kw_newa 14 40 hh dX10_init_15 rfl (by decide) (by decide) (Nat.le_of_ble_eq_true rfl) (Nat.le_of_ble_eq_true rfl) (Nat.le_of_ble_eq_true rfl) (fun h hh => ?_)
  have hh : hq h0 h B P [(10, 0, 0, [], [], [some (P.length + 1)]), (14, 40, 0, [], [], []), (14, 40, 0, [], [], [])] := hh
  refine kw_putR (q := 0) hh dX10_init_17 tf_10_15 rfl rfl (Or.inr ⟨_, rfl⟩) (Or.inr ⟨rfl, rfl⟩) (fun h hh => ?_)
  have hh : hq h0 h B P [(10, 0, 0, [], [], [some (P.length + 1), some (P.length + 2)]), (14, 40, 0, [], [], []), (14, 40, 0, [], [], [])] := hh
  refine e_aload_n dX10_init_20 rfl ?_
  refine e_bipush 40 dX10_init_21 rfl ?_
  refine kw_newa 14 40 hh dX10_init_23 rfl (by decide) (by decide) (Nat.le_of_ble_eq_true rfl) (Nat.le_of_ble_eq_true rfl) (Nat.le_of_ble_eq_true rfl) (fun h hh => ?_)
  have hh : hq h0 h B P [(10, 0, 0, [], [], [some (P.length + 1), some (P.length + 2)]), (14, 40, 0, [], [], []), (14, 40, 0, [], [], []), (14, 40, 0, [], [], [])] := hh
  refine kw_putR (q := 0) hh dX10_init_25 tf_10_18 rfl rfl (Or.inr ⟨_, rfl⟩) (Or.inr ⟨rfl, rfl⟩) (fun h hh => ?_)
  have hh : hq h0 h B P [(10, 0, 0, [], [], [some (P.length + 1), some (P.length + 2), some (P.length + 3)]), (14, 40, 0, [], [], []), (14, 40, 0, [], [], []), (14, 40, 0, [], [], [])] := hh
  refine e_aload_n dX10_init_28 rfl ?_
  refine e_iconst 0 dX10_init_29 rfl ?_
  refine kw_putI (q := 0) hh dX10_init_30 tf_10_21 rfl rfl (Or.inl rfl) (fun h hh => ?_)
  have hh : hq h0 h B P [(10, 0, 0, [0, 0, 0, 0], [], [some (P.length + 1), some (P.length + 2), some (P.length + 3)]), (14, 40, 0, [], [], []), (14, 40, 0, [], [], []), (14, 40, 0, [], [], [])] := hh
  exact e_vret dX10_init_33 rfl ⟨rfl, kq _ hh⟩
set_option maxHeartbeats 4000000 in
set_option maxRecDepth 20000 in
theorem kw_X1_init (ad : mA) (d B : Nat) : mKw ad (d + 1) B M_X1_init 1 3 24 R_X1_init := by
  intro P h0 h Q hh kq
  refine ⟨Nat.le_of_ble_eq_true rfl, ?_⟩
  show mEv _ _ _ _ _ _ _ 0 [some (.ref (B + (P.length + 0)))] [] _ _
  refine e_aload_n dX1_init_0 rfl ?_
  refine e_obj dX1_init_1 tm_1_3 (Nat.le_of_ble_eq_true rfl) ?_
  refine e_aload_n dX1_init_4 rfl ?_
  refine e_bipush 8 dX1_init_5 rfl ?_
  refine kw_newa 14 8 hh dX1_init_7 rfl (by decide) (by decide) (Nat.le_of_ble_eq_true rfl) (Nat.le_of_ble_eq_true rfl) (Nat.le_of_ble_eq_true rfl) (fun h hh => ?_)
  have hh : hq h0 h B P [(1, 0, 0, [], [], []), (14, 8, 0, [], [], [])] := hh
  refine kw_putR (q := 0) hh dX1_init_9 tf_1_9 rfl rfl (Or.inr ⟨_, rfl⟩) (Or.inr ⟨rfl, rfl⟩) (fun h hh => ?_)
  have hh : hq h0 h B P [(1, 0, 0, [], [], [some (P.length + 1)]), (14, 8, 0, [], [], [])] := hh
  refine e_aload_n dX1_init_12 rfl ?_
  refine e_bipush 8 dX1_init_13 rfl ?_
  refine kw_newa 14 8 hh dX1_init_15 rfl (by decide) (by decide) (Nat.le_of_ble_eq_true rfl) (Nat.le_of_ble_eq_true rfl) (Nat.le_of_ble_eq_true rfl) (fun h hh => ?_)
  have hh : hq h0 h B P [(1, 0, 0, [], [], [some (P.length + 1)]), (14, 8, 0, [], [], []), (14, 8, 0, [], [], [])] := hh
  refine kw_putR (q := 0) hh dX1_init_17 tf_1_15 rfl rfl (Or.inr ⟨_, rfl⟩) (Or.inr ⟨rfl, rfl⟩) (fun h hh => ?_)
  have hh : hq h0 h B P [(1, 0, 0, [], [], [some (P.length + 1), some (P.length + 2)]), (14, 8, 0, [], [], []), (14, 8, 0, [], [], [])] := hh
  refine e_aload_n dX1_init_20 rfl ?_
  refine e_bipush 8 dX1_init_21 rfl ?_
  refine kw_newa 14 8 hh dX1_init_23 rfl (by decide) (by decide) (Nat.le_of_ble_eq_true rfl) (Nat.le_of_ble_eq_true rfl) (Nat.le_of_ble_eq_true rfl) (fun h hh => ?_)
  have hh : hq h0 h B P [(1, 0, 0, [], [], [some (P.length + 1), some (P.length + 2)]), (14, 8, 0, [], [], []), (14, 8, 0, [], [], []), (14, 8, 0, [], [], [])] := hh
  refine kw_putR (q := 0) hh dX1_init_25 tf_1_18 rfl rfl (Or.inr ⟨_, rfl⟩) (Or.inr ⟨rfl, rfl⟩) (fun h hh => ?_)
  have hh : hq h0 h B P [(1, 0, 0, [], [], [some (P.length + 1), some (P.length + 2), some (P.length + 3)]), (14, 8, 0, [], [], []), (14, 8, 0, [], [], []), (14, 8, 0, [], [], [])] := hh
  refine e_aload_n dX1_init_28 rfl ?_
  refine e_iconst 0 dX1_init_29 rfl ?_
  refine kw_putI (q := 0) hh dX1_init_30 tf_1_21 rfl rfl (Or.inl rfl) (fun h hh => ?_)
  have hh : hq h0 h B P [(1, 0, 0, [0, 0, 0, 0], [], [some (P.length + 1), some (P.length + 2), some (P.length + 3)]), (14, 8, 0, [], [], []), (14, 8, 0, [], [], []), (14, 8, 0, [], [], [])] := hh
  exact e_vret dX1_init_33 rfl ⟨rfl, kq _ hh⟩
set_option maxHeartbeats 4000000 in
set_option maxRecDepth 20000 in
theorem kw_X8_init (ad : mA) (d B : Nat) : mKw ad (d + 4) B M_X8_init 8 53 1105 R_X8_init := by
  intro P h0 h Q hh kq
  refine ⟨Nat.le_of_ble_eq_true rfl, ?_⟩
  show mEv _ _ _ _ _ _ _ 0 [some (.ref (B + (P.length + 0))), none] [] _ _
  refine e_aload_n dX8_init_0 rfl ?_
  refine e_obj dX8_init_1 tm_8_3 (Nat.le_of_ble_eq_true rfl) ?_
  refine e_aload_n dX8_init_4 rfl ?_
  refine e_sipush 600 dX8_init_5 rfl ?_
  refine kw_newa 13 600 hh dX8_init_8 rfl (by decide) (by decide) (Nat.le_of_ble_eq_true rfl) (Nat.le_of_ble_eq_true rfl) (Nat.le_of_ble_eq_true rfl) (fun h hh => ?_)
  have hh : hq h0 h B P [(8, 0, 0, [], [], []), (13, 600, 0, [], [], [])] := hh
  refine kw_putR (q := 0) hh dX8_init_10 tf_8_9 rfl rfl (Or.inr ⟨_, rfl⟩) (Or.inr ⟨rfl, rfl⟩) (fun h hh => ?_)
  have hh : hq h0 h B P [(8, 0, 0, [], [], [some (P.length + 1)]), (13, 600, 0, [], [], [])] := hh
  refine e_aload_n dX8_init_13 rfl ?_
  refine e_iconst 2 dX8_init_14 rfl ?_
  refine kw_newq 18 2 hh dX8_init_15 ta_8_15 (by decide) (by decide) (Nat.le_of_ble_eq_true rfl) (Nat.le_of_ble_eq_true rfl) (Nat.le_of_ble_eq_true rfl) (fun h hh => ?_)
  have hh : hq h0 h B P [(8, 0, 0, [], [], [some (P.length + 1)]), (13, 600, 0, [], [], []), (18, 2, 0, [], [], [])] := hh
  refine kw_putR (q := 0) hh dX8_init_18 tf_8_17 rfl rfl (Or.inr ⟨_, rfl⟩) (Or.inr ⟨rfl, rfl⟩) (fun h hh => ?_)
  have hh : hq h0 h B P [(8, 0, 0, [], [], [some (P.length + 1), some (P.length + 2)]), (13, 600, 0, [], [], []), (18, 2, 0, [], [], [])] := hh
  refine e_aload_n dX8_init_21 rfl ?_
  refine e_iconst 2 dX8_init_22 rfl ?_
  refine kw_newq 20 2 hh dX8_init_23 ta_8_21 (by decide) (by decide) (Nat.le_of_ble_eq_true rfl) (Nat.le_of_ble_eq_true rfl) (Nat.le_of_ble_eq_true rfl) (fun h hh => ?_)
  have hh : hq h0 h B P [(8, 0, 0, [], [], [some (P.length + 1), some (P.length + 2)]), (13, 600, 0, [], [], []), (18, 2, 0, [], [], []), (20, 2, 0, [], [], [])] := hh
  refine kw_putR (q := 0) hh dX8_init_26 tf_8_23 rfl rfl (Or.inr ⟨_, rfl⟩) (Or.inr ⟨rfl, rfl⟩) (fun h hh => ?_)
  have hh : hq h0 h B P [(8, 0, 0, [], [], [some (P.length + 1), some (P.length + 2), some (P.length + 3)]), (13, 600, 0, [], [], []), (18, 2, 0, [], [], []), (20, 2, 0, [], [], [])] := hh
  refine e_aload_n dX8_init_29 rfl ?_
  refine e_iconst 2 dX8_init_30 rfl ?_
  refine kw_newq 17 2 hh dX8_init_31 ta_8_27 (by decide) (by decide) (Nat.le_of_ble_eq_true rfl) (Nat.le_of_ble_eq_true rfl) (Nat.le_of_ble_eq_true rfl) (fun h hh => ?_)
  have hh : hq h0 h B P [(8, 0, 0, [], [], [some (P.length + 1), some (P.length + 2), some (P.length + 3)]), (13, 600, 0, [], [], []), (18, 2, 0, [], [], []), (20, 2, 0, [], [], []), (17, 2, 0, [], [], [])] := hh
  refine kw_putR (q := 0) hh dX8_init_34 tf_8_29 rfl rfl (Or.inr ⟨_, rfl⟩) (Or.inr ⟨rfl, rfl⟩) (fun h hh => ?_)
  have hh : hq h0 h B P [(8, 0, 0, [], [], [some (P.length + 1), some (P.length + 2), some (P.length + 3), some (P.length + 4)]), (13, 600, 0, [], [], []), (18, 2, 0, [], [], []), (20, 2, 0, [], [], []), (17, 2, 0, [], [], [])] := hh
  refine e_aload_n dX8_init_37 rfl ?_
  refine e_iconst 3 dX8_init_38 rfl ?_
  refine kw_newa 14 3 hh dX8_init_39 rfl (by decide) (by decide) (Nat.le_of_ble_eq_true rfl) (Nat.le_of_ble_eq_true rfl) (Nat.le_of_ble_eq_true rfl) (fun h hh => ?_)
  have hh : hq h0 h B P [(8, 0, 0, [], [], [some (P.length + 1), some (P.length + 2), some (P.length + 3), some (P.length + 4)]), (13, 600, 0, [], [], []), (18, 2, 0, [], [], []), (20, 2, 0, [], [], []), (17, 2, 0, [], [], []), (14, 3, 0, [], [], [])] := hh
  refine kw_putR (q := 0) hh dX8_init_41 tf_8_33 rfl rfl (Or.inr ⟨_, rfl⟩) (Or.inr ⟨rfl, rfl⟩) (fun h hh => ?_)
  have hh : hq h0 h B P [(8, 0, 0, [], [], [some (P.length + 1), some (P.length + 2), some (P.length + 3), some (P.length + 4), some (P.length + 5)]), (13, 600, 0, [], [], []), (18, 2, 0, [], [], []), (20, 2, 0, [], [], []), (17, 2, 0, [], [], []), (14, 3, 0, [], [], [])] := hh
  refine e_aload_n dX8_init_44 rfl ?_
  refine e_iconst 0 dX8_init_45 rfl ?_
  refine kw_putI (q := 0) hh dX8_init_46 tf_8_37 rfl rfl (Or.inl rfl) (fun h hh => ?_)
  have hh : hq h0 h B P [(8, 0, 0, [0, 0, 0, 0, 0, 0], [], [some (P.length + 1), some (P.length + 2), some (P.length + 3), some (P.length + 4), some (P.length + 5)]), (13, 600, 0, [], [], []), (18, 2, 0, [], [], []), (20, 2, 0, [], [], []), (17, 2, 0, [], [], []), (14, 3, 0, [], [], [])] := hh
  refine e_aload_n dX8_init_49 rfl ?_
  refine e_iconst 0 dX8_init_50 rfl ?_
  refine kw_putI (q := 0) hh dX8_init_51 tf_8_41 rfl rfl (Or.inl rfl) (fun h hh => ?_)
  have hh : hq h0 h B P [(8, 0, 0, [0, 0, 0, 0, 0, 0, 0], [], [some (P.length + 1), some (P.length + 2), some (P.length + 3), some (P.length + 4), some (P.length + 5)]), (13, 600, 0, [], [], []), (18, 2, 0, [], [], []), (20, 2, 0, [], [], []), (17, 2, 0, [], [], []), (14, 3, 0, [], [], [])] := hh
  refine e_aload_n dX8_init_54 rfl ?_
  refine e_iconst (-1) dX8_init_55 rfl ?_
  refine kw_putI (q := 0) hh dX8_init_56 tf_8_44 rfl rfl (Or.inl rfl) (fun h hh => ?_)
  have hh : hq h0 h B P [(8, 0, 0, [0, 0, 0, 0, 0, 0, 0, (-1)], [], [some (P.length + 1), some (P.length + 2), some (P.length + 3), some (P.length + 4), some (P.length + 5)]), (13, 600, 0, [], [], []), (18, 2, 0, [], [], []), (20, 2, 0, [], [], []), (17, 2, 0, [], [], []), (14, 3, 0, [], [], [])] := hh
  refine e_iconst 0 dX8_init_59 rfl ?_
  refine e_istore_n (L' := [_, _]) dX8_init_60 (Nat.le_of_ble_eq_true rfl) rfl ?_
  refine e_iload_n dX8_init_61 rfl ?_
  refine e_iconst 2 dX8_init_62 rfl ?_
  refine e_icmp_ge 111 dX8_init_63 rfl (fun c => absurd c (by decide)) (fun _ => ?_)
  refine e_aload_n dX8_init_66 rfl ?_
  refine kw_getR (q := 0) hh dX8_init_67 tf_8_17 rfl rfl rfl ?_
  refine e_iload_n dX8_init_70 rfl ?_
  refine kw_new hh dX8_init_71 tc_8_15 (Nat.le_of_ble_eq_true rfl) (Nat.le_of_ble_eq_true rfl) (fun h hh => ?_)
  have hh : hq h0 h B P [(8, 0, 0, [0, 0, 0, 0, 0, 0, 0, (-1)], [], [some (P.length + 1), some (P.length + 2), some (P.length + 3), some (P.length + 4), some (P.length + 5)]), (13, 600, 0, [], [], []), (18, 2, 0, [], [], []), (20, 2, 0, [], [], []), (17, 2, 0, [], [], []), (14, 3, 0, [], [], []), (2, 0, 0, [], [], [])] := hh
  refine e_dup dX8_init_74 rfl ?_
  refine kw_ctor hh dX8_init_75 (Or.inr tm_8_47) rfl (Nat.le_of_ble_eq_true rfl) (Nat.le_of_ble_eq_true rfl) (Nat.le_of_ble_eq_true rfl) (kw_X2_init ad _ B) (fun h hh => ?_)
  have hh : hq h0 h B P [(8, 0, 0, [0, 0, 0, 0, 0, 0, 0, (-1)], [], [some (P.length + 1), some (P.length + 2), some (P.length + 3), some (P.length + 4), some (P.length + 5)]), (13, 600, 0, [], [], []), (18, 2, 0, [], [], []), (20, 2, 0, [], [], []), (17, 2, 0, [], [], []), (14, 3, 0, [], [], []), (2, 0, 0, [0, 0, 0, 0, 0, 0], [], [some (P.length + 7), some (P.length + 13), some (P.length + 19), some (P.length + 20), some (P.length + 21)]), (0, 0, 0, [0, 0, 0, 0, 0, 0], [], [some (P.length + 8), some (P.length + 9), some (P.length + 10), some (P.length + 11), some (P.length + 12)]), (14, 6, 0, [], [], []), (14, 6, 0, [], [], []), (14, 6, 0, [], [], []), (14, 6, 0, [], [], []), (14, 6, (-1), [], [], []), (0, 0, 0, [0, 0, 0, 0, 0, 0], [], [some (P.length + 14), some (P.length + 15), some (P.length + 16), some (P.length + 17), some (P.length + 18)]), (14, 6, 0, [], [], []), (14, 6, 0, [], [], []), (14, 6, 0, [], [], []), (14, 6, 0, [], [], []), (14, 6, (-1), [], [], []), (14, 6, 0, [], [], []), (14, 6, 0, [], [], []), (14, 6, 0, [], [], [])] := hh
  refine kw_ast (q := 2) 6 0 hh dX8_init_78 rfl (Nat.le_of_ble_eq_true rfl) (Nat.le_of_ble_eq_true rfl) rfl rfl (Nat.le_of_ble_eq_true rfl) rfl (by unfold vp_in; decide) (by decide) (fun h hh => ?_)
  have hh : hq h0 h B P [(8, 0, 0, [0, 0, 0, 0, 0, 0, 0, (-1)], [], [some (P.length + 1), some (P.length + 2), some (P.length + 3), some (P.length + 4), some (P.length + 5)]), (13, 600, 0, [], [], []), (18, 2, 0, [], [], [some (P.length + 6)]), (20, 2, 0, [], [], []), (17, 2, 0, [], [], []), (14, 3, 0, [], [], []), (2, 0, 0, [0, 0, 0, 0, 0, 0], [], [some (P.length + 7), some (P.length + 13), some (P.length + 19), some (P.length + 20), some (P.length + 21)]), (0, 0, 0, [0, 0, 0, 0, 0, 0], [], [some (P.length + 8), some (P.length + 9), some (P.length + 10), some (P.length + 11), some (P.length + 12)]), (14, 6, 0, [], [], []), (14, 6, 0, [], [], []), (14, 6, 0, [], [], []), (14, 6, 0, [], [], []), (14, 6, (-1), [], [], []), (0, 0, 0, [0, 0, 0, 0, 0, 0], [], [some (P.length + 14), some (P.length + 15), some (P.length + 16), some (P.length + 17), some (P.length + 18)]), (14, 6, 0, [], [], []), (14, 6, 0, [], [], []), (14, 6, 0, [], [], []), (14, 6, 0, [], [], []), (14, 6, (-1), [], [], []), (14, 6, 0, [], [], []), (14, 6, 0, [], [], []), (14, 6, 0, [], [], [])] := hh
  refine e_aload_n dX8_init_79 rfl ?_
  refine kw_getR (q := 0) hh dX8_init_80 tf_8_23 rfl rfl rfl ?_
  refine e_iload_n dX8_init_83 rfl ?_
  refine kw_new hh dX8_init_84 tc_8_21 (Nat.le_of_ble_eq_true rfl) (Nat.le_of_ble_eq_true rfl) (fun h hh => ?_)
  have hh : hq h0 h B P [(8, 0, 0, [0, 0, 0, 0, 0, 0, 0, (-1)], [], [some (P.length + 1), some (P.length + 2), some (P.length + 3), some (P.length + 4), some (P.length + 5)]), (13, 600, 0, [], [], []), (18, 2, 0, [], [], [some (P.length + 6)]), (20, 2, 0, [], [], []), (17, 2, 0, [], [], []), (14, 3, 0, [], [], []), (2, 0, 0, [0, 0, 0, 0, 0, 0], [], [some (P.length + 7), some (P.length + 13), some (P.length + 19), some (P.length + 20), some (P.length + 21)]), (0, 0, 0, [0, 0, 0, 0, 0, 0], [], [some (P.length + 8), some (P.length + 9), some (P.length + 10), some (P.length + 11), some (P.length + 12)]), (14, 6, 0, [], [], []), (14, 6, 0, [], [], []), (14, 6, 0, [], [], []), (14, 6, 0, [], [], []), (14, 6, (-1), [], [], []), (0, 0, 0, [0, 0, 0, 0, 0, 0], [], [some (P.length + 14), some (P.length + 15), some (P.length + 16), some (P.length + 17), some (P.length + 18)]), (14, 6, 0, [], [], []), (14, 6, 0, [], [], []), (14, 6, 0, [], [], []), (14, 6, 0, [], [], []), (14, 6, (-1), [], [], []), (14, 6, 0, [], [], []), (14, 6, 0, [], [], []), (14, 6, 0, [], [], []), (10, 0, 0, [], [], [])] := hh
  refine e_dup dX8_init_87 rfl ?_
  refine kw_ctor hh dX8_init_88 (Or.inr tm_8_48) rfl (Nat.le_of_ble_eq_true rfl) (Nat.le_of_ble_eq_true rfl) (Nat.le_of_ble_eq_true rfl) (kw_X10_init ad _ B) (fun h hh => ?_)
  have hh : hq h0 h B P [(8, 0, 0, [0, 0, 0, 0, 0, 0, 0, (-1)], [], [some (P.length + 1), some (P.length + 2), some (P.length + 3), some (P.length + 4), some (P.length + 5)]), (13, 600, 0, [], [], []), (18, 2, 0, [], [], [some (P.length + 6)]), (20, 2, 0, [], [], []), (17, 2, 0, [], [], []), (14, 3, 0, [], [], []), (2, 0, 0, [0, 0, 0, 0, 0, 0], [], [some (P.length + 7), some (P.length + 13), some (P.length + 19), some (P.length + 20), some (P.length + 21)]), (0, 0, 0, [0, 0, 0, 0, 0, 0], [], [some (P.length + 8), some (P.length + 9), some (P.length + 10), some (P.length + 11), some (P.length + 12)]), (14, 6, 0, [], [], []), (14, 6, 0, [], [], []), (14, 6, 0, [], [], []), (14, 6, 0, [], [], []), (14, 6, (-1), [], [], []), (0, 0, 0, [0, 0, 0, 0, 0, 0], [], [some (P.length + 14), some (P.length + 15), some (P.length + 16), some (P.length + 17), some (P.length + 18)]), (14, 6, 0, [], [], []), (14, 6, 0, [], [], []), (14, 6, 0, [], [], []), (14, 6, 0, [], [], []), (14, 6, (-1), [], [], []), (14, 6, 0, [], [], []), (14, 6, 0, [], [], []), (14, 6, 0, [], [], []), (10, 0, 0, [0, 0, 0, 0], [], [some (P.length + 23), some (P.length + 24), some (P.length + 25)]), (14, 40, 0, [], [], []), (14, 40, 0, [], [], []), (14, 40, 0, [], [], [])] := hh
  refine kw_ast (q := 3) 22 0 hh dX8_init_91 rfl (Nat.le_of_ble_eq_true rfl) (Nat.le_of_ble_eq_true rfl) rfl rfl (Nat.le_of_ble_eq_true rfl) rfl (by unfold vp_in; decide) (by decide) (fun h hh => ?_)
  have hh : hq h0 h B P [(8, 0, 0, [0, 0, 0, 0, 0, 0, 0, (-1)], [], [some (P.length + 1), some (P.length + 2), some (P.length + 3), some (P.length + 4), some (P.length + 5)]), (13, 600, 0, [], [], []), (18, 2, 0, [], [], [some (P.length + 6)]), (20, 2, 0, [], [], [some (P.length + 22)]), (17, 2, 0, [], [], []), (14, 3, 0, [], [], []), (2, 0, 0, [0, 0, 0, 0, 0, 0], [], [some (P.length + 7), some (P.length + 13), some (P.length + 19), some (P.length + 20), some (P.length + 21)]), (0, 0, 0, [0, 0, 0, 0, 0, 0], [], [some (P.length + 8), some (P.length + 9), some (P.length + 10), some (P.length + 11), some (P.length + 12)]), (14, 6, 0, [], [], []), (14, 6, 0, [], [], []), (14, 6, 0, [], [], []), (14, 6, 0, [], [], []), (14, 6, (-1), [], [], []), (0, 0, 0, [0, 0, 0, 0, 0, 0], [], [some (P.length + 14), some (P.length + 15), some (P.length + 16), some (P.length + 17), some (P.length + 18)]), (14, 6, 0, [], [], []), (14, 6, 0, [], [], []), (14, 6, 0, [], [], []), (14, 6, 0, [], [], []), (14, 6, (-1), [], [], []), (14, 6, 0, [], [], []), (14, 6, 0, [], [], []), (14, 6, 0, [], [], []), (10, 0, 0, [0, 0, 0, 0], [], [some (P.length + 23), some (P.length + 24), some (P.length + 25)]), (14, 40, 0, [], [], []), (14, 40, 0, [], [], []), (14, 40, 0, [], [], [])] := hh
  refine e_aload_n dX8_init_92 rfl ?_
  refine kw_getR (q := 0) hh dX8_init_93 tf_8_29 rfl rfl rfl ?_
  refine e_iload_n dX8_init_96 rfl ?_
  refine kw_new hh dX8_init_97 tc_8_27 (Nat.le_of_ble_eq_true rfl) (Nat.le_of_ble_eq_true rfl) (fun h hh => ?_)
  have hh : hq h0 h B P [(8, 0, 0, [0, 0, 0, 0, 0, 0, 0, (-1)], [], [some (P.length + 1), some (P.length + 2), some (P.length + 3), some (P.length + 4), some (P.length + 5)]), (13, 600, 0, [], [], []), (18, 2, 0, [], [], [some (P.length + 6)]), (20, 2, 0, [], [], [some (P.length + 22)]), (17, 2, 0, [], [], []), (14, 3, 0, [], [], []), (2, 0, 0, [0, 0, 0, 0, 0, 0], [], [some (P.length + 7), some (P.length + 13), some (P.length + 19), some (P.length + 20), some (P.length + 21)]), (0, 0, 0, [0, 0, 0, 0, 0, 0], [], [some (P.length + 8), some (P.length + 9), some (P.length + 10), some (P.length + 11), some (P.length + 12)]), (14, 6, 0, [], [], []), (14, 6, 0, [], [], []), (14, 6, 0, [], [], []), (14, 6, 0, [], [], []), (14, 6, (-1), [], [], []), (0, 0, 0, [0, 0, 0, 0, 0, 0], [], [some (P.length + 14), some (P.length + 15), some (P.length + 16), some (P.length + 17), some (P.length + 18)]), (14, 6, 0, [], [], []), (14, 6, 0, [], [], []), (14, 6, 0, [], [], []), (14, 6, 0, [], [], []), (14, 6, (-1), [], [], []), (14, 6, 0, [], [], []), (14, 6, 0, [], [], []), (14, 6, 0, [], [], []), (10, 0, 0, [0, 0, 0, 0], [], [some (P.length + 23), some (P.length + 24), some (P.length + 25)]), (14, 40, 0, [], [], []), (14, 40, 0, [], [], []), (14, 40, 0, [], [], []), (1, 0, 0, [], [], [])] := hh
  refine e_dup dX8_init_100 rfl ?_
  refine kw_ctor hh dX8_init_101 (Or.inr tm_8_49) rfl (Nat.le_of_ble_eq_true rfl) (Nat.le_of_ble_eq_true rfl) (Nat.le_of_ble_eq_true rfl) (kw_X1_init ad _ B) (fun h hh => ?_)
  have hh : hq h0 h B P [(8, 0, 0, [0, 0, 0, 0, 0, 0, 0, (-1)], [], [some (P.length + 1), some (P.length + 2), some (P.length + 3), some (P.length + 4), some (P.length + 5)]), (13, 600, 0, [], [], []), (18, 2, 0, [], [], [some (P.length + 6)]), (20, 2, 0, [], [], [some (P.length + 22)]), (17, 2, 0, [], [], []), (14, 3, 0, [], [], []), (2, 0, 0, [0, 0, 0, 0, 0, 0], [], [some (P.length + 7), some (P.length + 13), some (P.length + 19), some (P.length + 20), some (P.length + 21)]), (0, 0, 0, [0, 0, 0, 0, 0, 0], [], [some (P.length + 8), some (P.length + 9), some (P.length + 10), some (P.length + 11), some (P.length + 12)]), (14, 6, 0, [], [], []), (14, 6, 0, [], [], []), (14, 6, 0, [], [], []), (14, 6, 0, [], [], []), (14, 6, (-1), [], [], []), (0, 0, 0, [0, 0, 0, 0, 0, 0], [], [some (P.length + 14), some (P.length + 15), some (P.length + 16), some (P.length + 17), some (P.length + 18)]), (14, 6, 0, [], [], []), (14, 6, 0, [], [], []), (14, 6, 0, [], [], []), (14, 6, 0, [], [], []), (14, 6, (-1), [], [], []), (14, 6, 0, [], [], []), (14, 6, 0, [], [], []), (14, 6, 0, [], [], []), (10, 0, 0, [0, 0, 0, 0], [], [some (P.length + 23), some (P.length + 24), some (P.length + 25)]), (14, 40, 0, [], [], []), (14, 40, 0, [], [], []), (14, 40, 0, [], [], []), (1, 0, 0, [0, 0, 0, 0], [], [some (P.length + 27), some (P.length + 28), some (P.length + 29)]), (14, 8, 0, [], [], []), (14, 8, 0, [], [], []), (14, 8, 0, [], [], [])] := hh
  refine kw_ast (q := 4) 26 0 hh dX8_init_104 rfl (Nat.le_of_ble_eq_true rfl) (Nat.le_of_ble_eq_true rfl) rfl rfl (Nat.le_of_ble_eq_true rfl) rfl (by unfold vp_in; decide) (by decide) (fun h hh => ?_)
  have hh : hq h0 h B P [(8, 0, 0, [0, 0, 0, 0, 0, 0, 0, (-1)], [], [some (P.length + 1), some (P.length + 2), some (P.length + 3), some (P.length + 4), some (P.length + 5)]), (13, 600, 0, [], [], []), (18, 2, 0, [], [], [some (P.length + 6)]), (20, 2, 0, [], [], [some (P.length + 22)]), (17, 2, 0, [], [], [some (P.length + 26)]), (14, 3, 0, [], [], []), (2, 0, 0, [0, 0, 0, 0, 0, 0], [], [some (P.length + 7), some (P.length + 13), some (P.length + 19), some (P.length + 20), some (P.length + 21)]), (0, 0, 0, [0, 0, 0, 0, 0, 0], [], [some (P.length + 8), some (P.length + 9), some (P.length + 10), some (P.length + 11), some (P.length + 12)]), (14, 6, 0, [], [], []), (14, 6, 0, [], [], []), (14, 6, 0, [], [], []), (14, 6, 0, [], [], []), (14, 6, (-1), [], [], []), (0, 0, 0, [0, 0, 0, 0, 0, 0], [], [some (P.length + 14), some (P.length + 15), some (P.length + 16), some (P.length + 17), some (P.length + 18)]), (14, 6, 0, [], [], []), (14, 6, 0, [], [], []), (14, 6, 0, [], [], []), (14, 6, 0, [], [], []), (14, 6, (-1), [], [], []), (14, 6, 0, [], [], []), (14, 6, 0, [], [], []), (14, 6, 0, [], [], []), (10, 0, 0, [0, 0, 0, 0], [], [some (P.length + 23), some (P.length + 24), some (P.length + 25)]), (14, 40, 0, [], [], []), (14, 40, 0, [], [], []), (14, 40, 0, [], [], []), (1, 0, 0, [0, 0, 0, 0], [], [some (P.length + 27), some (P.length + 28), some (P.length + 29)]), (14, 8, 0, [], [], []), (14, 8, 0, [], [], []), (14, 8, 0, [], [], [])] := hh
  refine e_iinc 1 (L' := [_, _]) dX8_init_105 rfl (by decide) rfl ?_
  refine e_goto 61 dX8_init_108 rfl ?_
  refine e_iload_n dX8_init_61 rfl ?_
  refine e_iconst 2 dX8_init_62 rfl ?_
  refine e_icmp_ge 111 dX8_init_63 rfl (fun c => absurd c (by decide)) (fun _ => ?_)
  refine e_aload_n dX8_init_66 rfl ?_
  refine kw_getR (q := 0) hh dX8_init_67 tf_8_17 rfl rfl rfl ?_
  refine e_iload_n dX8_init_70 rfl ?_
  refine kw_new hh dX8_init_71 tc_8_15 (Nat.le_of_ble_eq_true rfl) (Nat.le_of_ble_eq_true rfl) (fun h hh => ?_)
  have hh : hq h0 h B P [(8, 0, 0, [0, 0, 0, 0, 0, 0, 0, (-1)], [], [some (P.length + 1), some (P.length + 2), some (P.length + 3), some (P.length + 4), some (P.length + 5)]), (13, 600, 0, [], [], []), (18, 2, 0, [], [], [some (P.length + 6)]), (20, 2, 0, [], [], [some (P.length + 22)]), (17, 2, 0, [], [], [some (P.length + 26)]), (14, 3, 0, [], [], []), (2, 0, 0, [0, 0, 0, 0, 0, 0], [], [some (P.length + 7), some (P.length + 13), some (P.length + 19), some (P.length + 20), some (P.length + 21)]), (0, 0, 0, [0, 0, 0, 0, 0, 0], [], [some (P.length + 8), some (P.length + 9), some (P.length + 10), some (P.length + 11), some (P.length + 12)]), (14, 6, 0, [], [], []), (14, 6, 0, [], [], []), (14, 6, 0, [], [], []), (14, 6, 0, [], [], []), (14, 6, (-1), [], [], []), (0, 0, 0, [0, 0, 0, 0, 0, 0], [], [some (P.length + 14), some (P.length + 15), some (P.length + 16), some (P.length + 17), some (P.length + 18)]), (14, 6, 0, [], [], []), (14, 6, 0, [], [], []), (14, 6, 0, [], [], []), (14, 6, 0, [], [], []), (14, 6, (-1), [], [], []), (14, 6, 0, [], [], []), (14, 6, 0, [], [], []), (14, 6, 0, [], [], []), (10, 0, 0, [0, 0, 0, 0], [], [some (P.length + 23), some (P.length + 24), some (P.length + 25)]), (14, 40, 0, [], [], []), (14, 40, 0, [], [], []), (14, 40, 0, [], [], []), (1, 0, 0, [0, 0, 0, 0], [], [some (P.length + 27), some (P.length + 28), some (P.length + 29)]), (14, 8, 0, [], [], []), (14, 8, 0, [], [], []), (14, 8, 0, [], [], []), (2, 0, 0, [], [], [])] := hh
  refine e_dup dX8_init_74 rfl ?_
  refine kw_ctor hh dX8_init_75 (Or.inr tm_8_47) rfl (Nat.le_of_ble_eq_true rfl) (Nat.le_of_ble_eq_true rfl) (Nat.le_of_ble_eq_true rfl) (kw_X2_init ad _ B) (fun h hh => ?_)
  have hh : hq h0 h B P [(8, 0, 0, [0, 0, 0, 0, 0, 0, 0, (-1)], [], [some (P.length + 1), some (P.length + 2), some (P.length + 3), some (P.length + 4), some (P.length + 5)]), (13, 600, 0, [], [], []), (18, 2, 0, [], [], [some (P.length + 6)]), (20, 2, 0, [], [], [some (P.length + 22)]), (17, 2, 0, [], [], [some (P.length + 26)]), (14, 3, 0, [], [], []), (2, 0, 0, [0, 0, 0, 0, 0, 0], [], [some (P.length + 7), some (P.length + 13), some (P.length + 19), some (P.length + 20), some (P.length + 21)]), (0, 0, 0, [0, 0, 0, 0, 0, 0], [], [some (P.length + 8), some (P.length + 9), some (P.length + 10), some (P.length + 11), some (P.length + 12)]), (14, 6, 0, [], [], []), (14, 6, 0, [], [], []), (14, 6, 0, [], [], []), (14, 6, 0, [], [], []), (14, 6, (-1), [], [], []), (0, 0, 0, [0, 0, 0, 0, 0, 0], [], [some (P.length + 14), some (P.length + 15), some (P.length + 16), some (P.length + 17), some (P.length + 18)]), (14, 6, 0, [], [], []), (14, 6, 0, [], [], []), (14, 6, 0, [], [], []), (14, 6, 0, [], [], []), (14, 6, (-1), [], [], []), (14, 6, 0, [], [], []), (14, 6, 0, [], [], []), (14, 6, 0, [], [], []), (10, 0, 0, [0, 0, 0, 0], [], [some (P.length + 23), some (P.length + 24), some (P.length + 25)]), (14, 40, 0, [], [], []), (14, 40, 0, [], [], []), (14, 40, 0, [], [], []), (1, 0, 0, [0, 0, 0, 0], [], [some (P.length + 27), some (P.length + 28), some (P.length + 29)]), (14, 8, 0, [], [], []), (14, 8, 0, [], [], []), (14, 8, 0, [], [], []), (2, 0, 0, [0, 0, 0, 0, 0, 0], [], [some (P.length + 31), some (P.length + 37), some (P.length + 43), some (P.length + 44), some (P.length + 45)]), (0, 0, 0, [0, 0, 0, 0, 0, 0], [], [some (P.length + 32), some (P.length + 33), some (P.length + 34), some (P.length + 35), some (P.length + 36)]), (14, 6, 0, [], [], []), (14, 6, 0, [], [], []), (14, 6, 0, [], [], []), (14, 6, 0, [], [], []), (14, 6, (-1), [], [], []), (0, 0, 0, [0, 0, 0, 0, 0, 0], [], [some (P.length + 38), some (P.length + 39), some (P.length + 40), some (P.length + 41), some (P.length + 42)]), (14, 6, 0, [], [], []), (14, 6, 0, [], [], []), (14, 6, 0, [], [], []), (14, 6, 0, [], [], []), (14, 6, (-1), [], [], []), (14, 6, 0, [], [], []), (14, 6, 0, [], [], []), (14, 6, 0, [], [], [])] := hh
  refine kw_ast (q := 2) 30 1 hh dX8_init_78 rfl (Nat.le_of_ble_eq_true rfl) (Nat.le_of_ble_eq_true rfl) rfl rfl (Nat.le_of_ble_eq_true rfl) rfl (by unfold vp_in; decide) (by decide) (fun h hh => ?_)
  have hh : hq h0 h B P [(8, 0, 0, [0, 0, 0, 0, 0, 0, 0, (-1)], [], [some (P.length + 1), some (P.length + 2), some (P.length + 3), some (P.length + 4), some (P.length + 5)]), (13, 600, 0, [], [], []), (18, 2, 0, [], [], [some (P.length + 6), some (P.length + 30)]), (20, 2, 0, [], [], [some (P.length + 22)]), (17, 2, 0, [], [], [some (P.length + 26)]), (14, 3, 0, [], [], []), (2, 0, 0, [0, 0, 0, 0, 0, 0], [], [some (P.length + 7), some (P.length + 13), some (P.length + 19), some (P.length + 20), some (P.length + 21)]), (0, 0, 0, [0, 0, 0, 0, 0, 0], [], [some (P.length + 8), some (P.length + 9), some (P.length + 10), some (P.length + 11), some (P.length + 12)]), (14, 6, 0, [], [], []), (14, 6, 0, [], [], []), (14, 6, 0, [], [], []), (14, 6, 0, [], [], []), (14, 6, (-1), [], [], []), (0, 0, 0, [0, 0, 0, 0, 0, 0], [], [some (P.length + 14), some (P.length + 15), some (P.length + 16), some (P.length + 17), some (P.length + 18)]), (14, 6, 0, [], [], []), (14, 6, 0, [], [], []), (14, 6, 0, [], [], []), (14, 6, 0, [], [], []), (14, 6, (-1), [], [], []), (14, 6, 0, [], [], []), (14, 6, 0, [], [], []), (14, 6, 0, [], [], []), (10, 0, 0, [0, 0, 0, 0], [], [some (P.length + 23), some (P.length + 24), some (P.length + 25)]), (14, 40, 0, [], [], []), (14, 40, 0, [], [], []), (14, 40, 0, [], [], []), (1, 0, 0, [0, 0, 0, 0], [], [some (P.length + 27), some (P.length + 28), some (P.length + 29)]), (14, 8, 0, [], [], []), (14, 8, 0, [], [], []), (14, 8, 0, [], [], []), (2, 0, 0, [0, 0, 0, 0, 0, 0], [], [some (P.length + 31), some (P.length + 37), some (P.length + 43), some (P.length + 44), some (P.length + 45)]), (0, 0, 0, [0, 0, 0, 0, 0, 0], [], [some (P.length + 32), some (P.length + 33), some (P.length + 34), some (P.length + 35), some (P.length + 36)]), (14, 6, 0, [], [], []), (14, 6, 0, [], [], []), (14, 6, 0, [], [], []), (14, 6, 0, [], [], []), (14, 6, (-1), [], [], []), (0, 0, 0, [0, 0, 0, 0, 0, 0], [], [some (P.length + 38), some (P.length + 39), some (P.length + 40), some (P.length + 41), some (P.length + 42)]), (14, 6, 0, [], [], []), (14, 6, 0, [], [], []), (14, 6, 0, [], [], []), (14, 6, 0, [], [], []), (14, 6, (-1), [], [], []), (14, 6, 0, [], [], []), (14, 6, 0, [], [], []), (14, 6, 0, [], [], [])] := hh
  refine e_aload_n dX8_init_79 rfl ?_
  refine kw_getR (q := 0) hh dX8_init_80 tf_8_23 rfl rfl rfl ?_
  refine e_iload_n dX8_init_83 rfl ?_
  refine kw_new hh dX8_init_84 tc_8_21 (Nat.le_of_ble_eq_true rfl) (Nat.le_of_ble_eq_true rfl) (fun h hh => ?_)
  have hh : hq h0 h B P [(8, 0, 0, [0, 0, 0, 0, 0, 0, 0, (-1)], [], [some (P.length + 1), some (P.length + 2), some (P.length + 3), some (P.length + 4), some (P.length + 5)]), (13, 600, 0, [], [], []), (18, 2, 0, [], [], [some (P.length + 6), some (P.length + 30)]), (20, 2, 0, [], [], [some (P.length + 22)]), (17, 2, 0, [], [], [some (P.length + 26)]), (14, 3, 0, [], [], []), (2, 0, 0, [0, 0, 0, 0, 0, 0], [], [some (P.length + 7), some (P.length + 13), some (P.length + 19), some (P.length + 20), some (P.length + 21)]), (0, 0, 0, [0, 0, 0, 0, 0, 0], [], [some (P.length + 8), some (P.length + 9), some (P.length + 10), some (P.length + 11), some (P.length + 12)]), (14, 6, 0, [], [], []), (14, 6, 0, [], [], []), (14, 6, 0, [], [], []), (14, 6, 0, [], [], []), (14, 6, (-1), [], [], []), (0, 0, 0, [0, 0, 0, 0, 0, 0], [], [some (P.length + 14), some (P.length + 15), some (P.length + 16), some (P.length + 17), some (P.length + 18)]), (14, 6, 0, [], [], []), (14, 6, 0, [], [], []), (14, 6, 0, [], [], []), (14, 6, 0, [], [], []), (14, 6, (-1), [], [], []), (14, 6, 0, [], [], []), (14, 6, 0, [], [], []), (14, 6, 0, [], [], []), (10, 0, 0, [0, 0, 0, 0], [], [some (P.length + 23), some (P.length + 24), some (P.length + 25)]), (14, 40, 0, [], [], []), (14, 40, 0, [], [], []), (14, 40, 0, [], [], []), (1, 0, 0, [0, 0, 0, 0], [], [some (P.length + 27), some (P.length + 28), some (P.length + 29)]), (14, 8, 0, [], [], []), (14, 8, 0, [], [], []), (14, 8, 0, [], [], []), (2, 0, 0, [0, 0, 0, 0, 0, 0], [], [some (P.length + 31), some (P.length + 37), some (P.length + 43), some (P.length + 44), some (P.length + 45)]), (0, 0, 0, [0, 0, 0, 0, 0, 0], [], [some (P.length + 32), some (P.length + 33), some (P.length + 34), some (P.length + 35), some (P.length + 36)]), (14, 6, 0, [], [], []), (14, 6, 0, [], [], []), (14, 6, 0, [], [], []), (14, 6, 0, [], [], []), (14, 6, (-1), [], [], []), (0, 0, 0, [0, 0, 0, 0, 0, 0], [], [some (P.length + 38), some (P.length + 39), some (P.length + 40), some (P.length + 41), some (P.length + 42)]), (14, 6, 0, [], [], []), (14, 6, 0, [], [], []), (14, 6, 0, [], [], []), (14, 6, 0, [], [], []), (14, 6, (-1), [], [], []), (14, 6, 0, [], [], []), (14, 6, 0, [], [], []), (14, 6, 0, [], [], []), (10, 0, 0, [], [], [])] := hh
  refine e_dup dX8_init_87 rfl ?_
  refine kw_ctor hh dX8_init_88 (Or.inr tm_8_48) rfl (Nat.le_of_ble_eq_true rfl) (Nat.le_of_ble_eq_true rfl) (Nat.le_of_ble_eq_true rfl) (kw_X10_init ad _ B) (fun h hh => ?_)
  have hh : hq h0 h B P [(8, 0, 0, [0, 0, 0, 0, 0, 0, 0, (-1)], [], [some (P.length + 1), some (P.length + 2), some (P.length + 3), some (P.length + 4), some (P.length + 5)]), (13, 600, 0, [], [], []), (18, 2, 0, [], [], [some (P.length + 6), some (P.length + 30)]), (20, 2, 0, [], [], [some (P.length + 22)]), (17, 2, 0, [], [], [some (P.length + 26)]), (14, 3, 0, [], [], []), (2, 0, 0, [0, 0, 0, 0, 0, 0], [], [some (P.length + 7), some (P.length + 13), some (P.length + 19), some (P.length + 20), some (P.length + 21)]), (0, 0, 0, [0, 0, 0, 0, 0, 0], [], [some (P.length + 8), some (P.length + 9), some (P.length + 10), some (P.length + 11), some (P.length + 12)]), (14, 6, 0, [], [], []), (14, 6, 0, [], [], []), (14, 6, 0, [], [], []), (14, 6, 0, [], [], []), (14, 6, (-1), [], [], []), (0, 0, 0, [0, 0, 0, 0, 0, 0], [], [some (P.length + 14), some (P.length + 15), some (P.length + 16), some (P.length + 17), some (P.length + 18)]), (14, 6, 0, [], [], []), (14, 6, 0, [], [], []), (14, 6, 0, [], [], []), (14, 6, 0, [], [], []), (14, 6, (-1), [], [], []), (14, 6, 0, [], [], []), (14, 6, 0, [], [], []), (14, 6, 0, [], [], []), (10, 0, 0, [0, 0, 0, 0], [], [some (P.length + 23), some (P.length + 24), some (P.length + 25)]), (14, 40, 0, [], [], []), (14, 40, 0, [], [], []), (14, 40, 0, [], [], []), (1, 0, 0, [0, 0, 0, 0], [], [some (P.length + 27), some (P.length + 28), some (P.length + 29)]), (14, 8, 0, [], [], []), (14, 8, 0, [], [], []), (14, 8, 0, [], [], []), (2, 0, 0, [0, 0, 0, 0, 0, 0], [], [some (P.length + 31), some (P.length + 37), some (P.length + 43), some (P.length + 44), some (P.length + 45)]), (0, 0, 0, [0, 0, 0, 0, 0, 0], [], [some (P.length + 32), some (P.length + 33), some (P.length + 34), some (P.length + 35), some (P.length + 36)]), (14, 6, 0, [], [], []), (14, 6, 0, [], [], []), (14, 6, 0, [], [], []), (14, 6, 0, [], [], []), (14, 6, (-1), [], [], []), (0, 0, 0, [0, 0, 0, 0, 0, 0], [], [some (P.length + 38), some (P.length + 39), some (P.length + 40), some (P.length + 41), some (P.length + 42)]), (14, 6, 0, [], [], []), (14, 6, 0, [], [], []), (14, 6, 0, [], [], []), (14, 6, 0, [], [], []), (14, 6, (-1), [], [], []), (14, 6, 0, [], [], []), (14, 6, 0, [], [], []), (14, 6, 0, [], [], []), (10, 0, 0, [0, 0, 0, 0], [], [some (P.length + 47), some (P.length + 48), some (P.length + 49)]), (14, 40, 0, [], [], []), (14, 40, 0, [], [], []), (14, 40, 0, [], [], [])] := hh
  refine kw_ast (q := 3) 46 1 hh dX8_init_91 rfl (Nat.le_of_ble_eq_true rfl) (Nat.le_of_ble_eq_true rfl) rfl rfl (Nat.le_of_ble_eq_true rfl) rfl (by unfold vp_in; decide) (by decide) (fun h hh => ?_)
  have hh : hq h0 h B P [(8, 0, 0, [0, 0, 0, 0, 0, 0, 0, (-1)], [], [some (P.length + 1), some (P.length + 2), some (P.length + 3), some (P.length + 4), some (P.length + 5)]), (13, 600, 0, [], [], []), (18, 2, 0, [], [], [some (P.length + 6), some (P.length + 30)]), (20, 2, 0, [], [], [some (P.length + 22), some (P.length + 46)]), (17, 2, 0, [], [], [some (P.length + 26)]), (14, 3, 0, [], [], []), (2, 0, 0, [0, 0, 0, 0, 0, 0], [], [some (P.length + 7), some (P.length + 13), some (P.length + 19), some (P.length + 20), some (P.length + 21)]), (0, 0, 0, [0, 0, 0, 0, 0, 0], [], [some (P.length + 8), some (P.length + 9), some (P.length + 10), some (P.length + 11), some (P.length + 12)]), (14, 6, 0, [], [], []), (14, 6, 0, [], [], []), (14, 6, 0, [], [], []), (14, 6, 0, [], [], []), (14, 6, (-1), [], [], []), (0, 0, 0, [0, 0, 0, 0, 0, 0], [], [some (P.length + 14), some (P.length + 15), some (P.length + 16), some (P.length + 17), some (P.length + 18)]), (14, 6, 0, [], [], []), (14, 6, 0, [], [], []), (14, 6, 0, [], [], []), (14, 6, 0, [], [], []), (14, 6, (-1), [], [], []), (14, 6, 0, [], [], []), (14, 6, 0, [], [], []), (14, 6, 0, [], [], []), (10, 0, 0, [0, 0, 0, 0], [], [some (P.length + 23), some (P.length + 24), some (P.length + 25)]), (14, 40, 0, [], [], []), (14, 40, 0, [], [], []), (14, 40, 0, [], [], []), (1, 0, 0, [0, 0, 0, 0], [], [some (P.length + 27), some (P.length + 28), some (P.length + 29)]), (14, 8, 0, [], [], []), (14, 8, 0, [], [], []), (14, 8, 0, [], [], []), (2, 0, 0, [0, 0, 0, 0, 0, 0], [], [some (P.length + 31), some (P.length + 37), some (P.length + 43), some (P.length + 44), some (P.length + 45)]), (0, 0, 0, [0, 0, 0, 0, 0, 0], [], [some (P.length + 32), some (P.length + 33), some (P.length + 34), some (P.length + 35), some (P.length + 36)]), (14, 6, 0, [], [], []), (14, 6, 0, [], [], []), (14, 6, 0, [], [], []), (14, 6, 0, [], [], []), (14, 6, (-1), [], [], []), (0, 0, 0, [0, 0, 0, 0, 0, 0], [], [some (P.length + 38), some (P.length + 39), some (P.length + 40), some (P.length + 41), some (P.length + 42)]), (14, 6, 0, [], [], []), (14, 6, 0, [], [], []), (14, 6, 0, [], [], []), (14, 6, 0, [], [], []), (14, 6, (-1), [], [], []), (14, 6, 0, [], [], []), (14, 6, 0, [], [], []), (14, 6, 0, [], [], []), (10, 0, 0, [0, 0, 0, 0], [], [some (P.length + 47), some (P.length + 48), some (P.length + 49)]), (14, 40, 0, [], [], []), (14, 40, 0, [], [], []), (14, 40, 0, [], [], [])] := hh
  refine e_aload_n dX8_init_92 rfl ?_
  refine kw_getR (q := 0) hh dX8_init_93 tf_8_29 rfl rfl rfl ?_
  refine e_iload_n dX8_init_96 rfl ?_
  refine kw_new hh dX8_init_97 tc_8_27 (Nat.le_of_ble_eq_true rfl) (Nat.le_of_ble_eq_true rfl) (fun h hh => ?_)
  have hh : hq h0 h B P [(8, 0, 0, [0, 0, 0, 0, 0, 0, 0, (-1)], [], [some (P.length + 1), some (P.length + 2), some (P.length + 3), some (P.length + 4), some (P.length + 5)]), (13, 600, 0, [], [], []), (18, 2, 0, [], [], [some (P.length + 6), some (P.length + 30)]), (20, 2, 0, [], [], [some (P.length + 22), some (P.length + 46)]), (17, 2, 0, [], [], [some (P.length + 26)]), (14, 3, 0, [], [], []), (2, 0, 0, [0, 0, 0, 0, 0, 0], [], [some (P.length + 7), some (P.length + 13), some (P.length + 19), some (P.length + 20), some (P.length + 21)]), (0, 0, 0, [0, 0, 0, 0, 0, 0], [], [some (P.length + 8), some (P.length + 9), some (P.length + 10), some (P.length + 11), some (P.length + 12)]), (14, 6, 0, [], [], []), (14, 6, 0, [], [], []), (14, 6, 0, [], [], []), (14, 6, 0, [], [], []), (14, 6, (-1), [], [], []), (0, 0, 0, [0, 0, 0, 0, 0, 0], [], [some (P.length + 14), some (P.length + 15), some (P.length + 16), some (P.length + 17), some (P.length + 18)]), (14, 6, 0, [], [], []), (14, 6, 0, [], [], []), (14, 6, 0, [], [], []), (14, 6, 0, [], [], []), (14, 6, (-1), [], [], []), (14, 6, 0, [], [], []), (14, 6, 0, [], [], []), (14, 6, 0, [], [], []), (10, 0, 0, [0, 0, 0, 0], [], [some (P.length + 23), some (P.length + 24), some (P.length + 25)]), (14, 40, 0, [], [], []), (14, 40, 0, [], [], []), (14, 40, 0, [], [], []), (1, 0, 0, [0, 0, 0, 0], [], [some (P.length + 27), some (P.length + 28), some (P.length + 29)]), (14, 8, 0, [], [], []), (14, 8, 0, [], [], []), (14, 8, 0, [], [], []), (2, 0, 0, [0, 0, 0, 0, 0, 0], [], [some (P.length + 31), some (P.length + 37), some (P.length + 43), some (P.length + 44), some (P.length + 45)]), (0, 0, 0, [0, 0, 0, 0, 0, 0], [], [some (P.length + 32), some (P.length + 33), some (P.length + 34), some (P.length + 35), some (P.length + 36)]), (14, 6, 0, [], [], []), (14, 6, 0, [], [], []), (14, 6, 0, [], [], []), (14, 6, 0, [], [], []), (14, 6, (-1), [], [], []), (0, 0, 0, [0, 0, 0, 0, 0, 0], [], [some (P.length + 38), some (P.length + 39), some (P.length + 40), some (P.length + 41), some (P.length + 42)]), (14, 6, 0, [], [], []), (14, 6, 0, [], [], []), (14, 6, 0, [], [], []), (14, 6, 0, [], [], []), (14, 6, (-1), [], [], []), (14, 6, 0, [], [], []), (14, 6, 0, [], [], []), (14, 6, 0, [], [], []), (10, 0, 0, [0, 0, 0, 0], [], [some (P.length + 47), some (P.length + 48), some (P.length + 49)]), (14, 40, 0, [], [], []), (14, 40, 0, [], [], []), (14, 40, 0, [], [], []), (1, 0, 0, [], [], [])] := hh
  refine e_dup dX8_init_100 rfl ?_
  refine kw_ctor hh dX8_init_101 (Or.inr tm_8_49) rfl (Nat.le_of_ble_eq_true rfl) (Nat.le_of_ble_eq_true rfl) (Nat.le_of_ble_eq_true rfl) (kw_X1_init ad _ B) (fun h hh => ?_)
  have hh : hq h0 h B P [(8, 0, 0, [0, 0, 0, 0, 0, 0, 0, (-1)], [], [some (P.length + 1), some (P.length + 2), some (P.length + 3), some (P.length + 4), some (P.length + 5)]), (13, 600, 0, [], [], []), (18, 2, 0, [], [], [some (P.length + 6), some (P.length + 30)]), (20, 2, 0, [], [], [some (P.length + 22), some (P.length + 46)]), (17, 2, 0, [], [], [some (P.length + 26)]), (14, 3, 0, [], [], []), (2, 0, 0, [0, 0, 0, 0, 0, 0], [], [some (P.length + 7), some (P.length + 13), some (P.length + 19), some (P.length + 20), some (P.length + 21)]), (0, 0, 0, [0, 0, 0, 0, 0, 0], [], [some (P.length + 8), some (P.length + 9), some (P.length + 10), some (P.length + 11), some (P.length + 12)]), (14, 6, 0, [], [], []), (14, 6, 0, [], [], []), (14, 6, 0, [], [], []), (14, 6, 0, [], [], []), (14, 6, (-1), [], [], []), (0, 0, 0, [0, 0, 0, 0, 0, 0], [], [some (P.length + 14), some (P.length + 15), some (P.length + 16), some (P.length + 17), some (P.length + 18)]), (14, 6, 0, [], [], []), (14, 6, 0, [], [], []), (14, 6, 0, [], [], []), (14, 6, 0, [], [], []), (14, 6, (-1), [], [], []), (14, 6, 0, [], [], []), (14, 6, 0, [], [], []), (14, 6, 0, [], [], []), (10, 0, 0, [0, 0, 0, 0], [], [some (P.length + 23), some (P.length + 24), some (P.length + 25)]), (14, 40, 0, [], [], []), (14, 40, 0, [], [], []), (14, 40, 0, [], [], []), (1, 0, 0, [0, 0, 0, 0], [], [some (P.length + 27), some (P.length + 28), some (P.length + 29)]), (14, 8, 0, [], [], []), (14, 8, 0, [], [], []), (14, 8, 0, [], [], []), (2, 0, 0, [0, 0, 0, 0, 0, 0], [], [some (P.length + 31), some (P.length + 37), some (P.length + 43), some (P.length + 44), some (P.length + 45)]), (0, 0, 0, [0, 0, 0, 0, 0, 0], [], [some (P.length + 32), some (P.length + 33), some (P.length + 34), some (P.length + 35), some (P.length + 36)]), (14, 6, 0, [], [], []), (14, 6, 0, [], [], []), (14, 6, 0, [], [], []), (14, 6, 0, [], [], []), (14, 6, (-1), [], [], []), (0, 0, 0, [0, 0, 0, 0, 0, 0], [], [some (P.length + 38), some (P.length + 39), some (P.length + 40), some (P.length + 41), some (P.length + 42)]), (14, 6, 0, [], [], []), (14, 6, 0, [], [], []), (14, 6, 0, [], [], []), (14, 6, 0, [], [], []), (14, 6, (-1), [], [], []), (14, 6, 0, [], [], []), (14, 6, 0, [], [], []), (14, 6, 0, [], [], []), (10, 0, 0, [0, 0, 0, 0], [], [some (P.length + 47), some (P.length + 48), some (P.length + 49)]), (14, 40, 0, [], [], []), (14, 40, 0, [], [], []), (14, 40, 0, [], [], []), (1, 0, 0, [0, 0, 0, 0], [], [some (P.length + 51), some (P.length + 52), some (P.length + 53)]), (14, 8, 0, [], [], []), (14, 8, 0, [], [], []), (14, 8, 0, [], [], [])] := hh
  refine kw_ast (q := 4) 50 1 hh dX8_init_104 rfl (Nat.le_of_ble_eq_true rfl) (Nat.le_of_ble_eq_true rfl) rfl rfl (Nat.le_of_ble_eq_true rfl) rfl (by unfold vp_in; decide) (by decide) (fun h hh => ?_)
  have hh : hq h0 h B P [(8, 0, 0, [0, 0, 0, 0, 0, 0, 0, (-1)], [], [some (P.length + 1), some (P.length + 2), some (P.length + 3), some (P.length + 4), some (P.length + 5)]), (13, 600, 0, [], [], []), (18, 2, 0, [], [], [some (P.length + 6), some (P.length + 30)]), (20, 2, 0, [], [], [some (P.length + 22), some (P.length + 46)]), (17, 2, 0, [], [], [some (P.length + 26), some (P.length + 50)]), (14, 3, 0, [], [], []), (2, 0, 0, [0, 0, 0, 0, 0, 0], [], [some (P.length + 7), some (P.length + 13), some (P.length + 19), some (P.length + 20), some (P.length + 21)]), (0, 0, 0, [0, 0, 0, 0, 0, 0], [], [some (P.length + 8), some (P.length + 9), some (P.length + 10), some (P.length + 11), some (P.length + 12)]), (14, 6, 0, [], [], []), (14, 6, 0, [], [], []), (14, 6, 0, [], [], []), (14, 6, 0, [], [], []), (14, 6, (-1), [], [], []), (0, 0, 0, [0, 0, 0, 0, 0, 0], [], [some (P.length + 14), some (P.length + 15), some (P.length + 16), some (P.length + 17), some (P.length + 18)]), (14, 6, 0, [], [], []), (14, 6, 0, [], [], []), (14, 6, 0, [], [], []), (14, 6, 0, [], [], []), (14, 6, (-1), [], [], []), (14, 6, 0, [], [], []), (14, 6, 0, [], [], []), (14, 6, 0, [], [], []), (10, 0, 0, [0, 0, 0, 0], [], [some (P.length + 23), some (P.length + 24), some (P.length + 25)]), (14, 40, 0, [], [], []), (14, 40, 0, [], [], []), (14, 40, 0, [], [], []), (1, 0, 0, [0, 0, 0, 0], [], [some (P.length + 27), some (P.length + 28), some (P.length + 29)]), (14, 8, 0, [], [], []), (14, 8, 0, [], [], []), (14, 8, 0, [], [], []), (2, 0, 0, [0, 0, 0, 0, 0, 0], [], [some (P.length + 31), some (P.length + 37), some (P.length + 43), some (P.length + 44), some (P.length + 45)]), (0, 0, 0, [0, 0, 0, 0, 0, 0], [], [some (P.length + 32), some (P.length + 33), some (P.length + 34), some (P.length + 35), some (P.length + 36)]), (14, 6, 0, [], [], []), (14, 6, 0, [], [], []), (14, 6, 0, [], [], []), (14, 6, 0, [], [], []), (14, 6, (-1), [], [], []), (0, 0, 0, [0, 0, 0, 0, 0, 0], [], [some (P.length + 38), some (P.length + 39), some (P.length + 40), some (P.length + 41), some (P.length + 42)]), (14, 6, 0, [], [], []), (14, 6, 0, [], [], []), (14, 6, 0, [], [], []), (14, 6, 0, [], [], []), (14, 6, (-1), [], [], []), (14, 6, 0, [], [], []), (14, 6, 0, [], [], []), (14, 6, 0, [], [], []), (10, 0, 0, [0, 0, 0, 0], [], [some (P.length + 47), some (P.length + 48), some (P.length + 49)]), (14, 40, 0, [], [], []), (14, 40, 0, [], [], []), (14, 40, 0, [], [], []), (1, 0, 0, [0, 0, 0, 0], [], [some (P.length + 51), some (P.length + 52), some (P.length + 53)]), (14, 8, 0, [], [], []), (14, 8, 0, [], [], []), (14, 8, 0, [], [], [])] := hh
  refine e_iinc 2 (L' := [_, _]) dX8_init_105 rfl (by decide) rfl ?_
  refine e_goto 61 dX8_init_108 rfl ?_
  refine e_iload_n dX8_init_61 rfl ?_
  refine e_iconst 2 dX8_init_62 rfl ?_
  refine e_icmp_ge 111 dX8_init_63 rfl (fun _ => ?_) (fun c => absurd (by decide) c)
  exact e_vret dX8_init_111 rfl ⟨rfl, kq _ hh⟩
def tdS : List mCe := R_X8_init 0
set_option maxRecDepth 100000 in
theorem tdS_A : tdA.all (fun q => match tdS[q.1]? with
  | some c => c.1 == q.2.1 && c.2.1 == q.2.2
  | none => false) = true := by decide +kernel
set_option maxRecDepth 100000 in
theorem tdS_R : tdR.all (fun q => match tdS[q.1]? with
  | some c => c.2.2.2.2.2.getD q.2.1 none == some q.2.2
  | none => false) = true := by decide +kernel
theorem tdS_len : tdS.length = 54 := by decide +kernel
theorem tdS_td {h : mH} {B : Nat} (hh : hp h B [] tdS) : tdk h B := by
  refine ⟨fun q hq => ?_, fun q hq => ?_⟩
  · have h1 := List.all_eq_true.mp tdS_A q hq
    cases hc : tdS[q.1]? with
    | none => rw [hc] at h1; cases h1
    | some c =>
      rw [hc] at h1
      simp only [Bool.and_eq_true, beq_iff_eq] at h1
      have h2 := (hh.2 q.1 c hc).1
      rw [h2, h1.1, h1.2]
  · have h1 := List.all_eq_true.mp tdS_R q hq
    cases hc : tdS[q.1]? with
    | none => rw [hc] at h1; cases h1
    | some c =>
      rw [hc] at h1
      simp only [beq_iff_eq] at h1
      have h2 := (hh.2 q.1 c hc).2.2.2 q.2.1
      rw [h2, h1]; rfl
