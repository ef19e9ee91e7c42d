/-! MORE ROWS over Int: ends, copies, switches, longs, bits -/
theorem frm_1 {h h1 : mH} {a : Nat} {z v : Int} (e : h1 = sI h a z v) : frm (fun b k => b = a ∧ k = z.toNat) h h1 := frm_w (frm_0 h) e ⟨rfl, rfl⟩
theorem z_q {Q : mQ} {a b : Int} {h : mH} (k : Q (some (.int (zI a))) h) (e : b = a) : Q (some (.int (zI b))) h := by rw [e]; exact k
theorem z_q1 {Q : mQ} {p : Prop} [Decidable p] {h : mH} (k : Q (some (.int (zI (bZ p)))) h) (e : p) : Q (some (.int (zI 1))) h := by rw [bZ_1 e] at k; exact k
theorem z_q0 {Q : mQ} {p : Prop} [Decidable p] {h : mH} (k : Q (some (.int (zI (bZ p)))) h) (e : ¬ p) : Q (some (.int (zI 0))) h := by rw [bZ_0 e] at k; exact k
theorem z_qb {Q : mQ} {p q : Prop} [Decidable p] [Decidable q] {h : mH} (k : Q (some (.int (zI (bZ p)))) h) (e : q ↔ p) : Q (some (.int (zI (bZ q)))) h := by rw [bZ_iff e]; exact k
theorem rI_wA (h : mH) (a : Nat) (f : Nat → Int32) (j : Int) : rI (wA h a f) a j = (f j.toNat).toInt := by
  show ((if a = a then f else mI h a) j.toNat).toInt = _
  rw [if_pos rfl]
theorem frm_A (h : mH) (a : Nat) (f : Nat → Int32) : frm (fun b _ => b = a) h (wA h a f) := ⟨⟨rfl, rfl, rfl⟩, fun b k n => by show (if b = a then f else mI h b) k = _; rw [if_neg n], fun _ _ _ => rfl⟩
theorem zp_fill {ad : mA} {d : Nat} {h : mH} {Q : mQ} {a n : Nat} {v : Int} (hs : mS h a = (14, n)) (hn : n < 2147483648) (hv : inI v) (kq : ∀ h1, frm (fun b _ => b = a) h h1 → (∀ j : Int, 0 ≤ j → j < n → rI h1 a j = v) → Q none h1) : mCal TB0 ad (d + 1) M_J7_fill_53178 [.ref a, .int (zI v)] h 0 0 Q := by
  refine sp_fill hs hn (kq _ (frm_A h a _) (fun j h0 h1 => ?_))
  unfold fillI
  rw [rI_wA, if_pos (by omega), toInt_zI hv]
section ZRow2
variable {T : mTb} {ad : mA} {M : mM} {dp : Nat} {lim : Nat × Nat} {cal : mC} {Q : mZ} {pc : Nat} {L L' : mL} {h : mH} {zz : Nat × Nat} {r st : List Value}
theorem zI_nlt {x : Int} (h0 : 0 ≤ x) (h1 : x < 2147483648) : ¬ zI x < 0 := fun q => by
  have := (zI_lt ⟨by omega, h1⟩ in_0).mp (by rw [zI_0]; exact q)
  omega
theorem z_cpy {N : mM} {i a a0 n0 n1 : Nat} {n dp' sp : Int} (hd : decode (mMc M) pc = .ok (.invokestatic i, 3)) (ht : tMet T (mMo M) i = some (5, N)) (h8 : (r.map fun v => v.category).sum ≤ 8) (hs : mS h a = (14, n1)) (hs0 : mS h a0 = (14, n0)) (b1 : n1 < 2147483648) (b0 : n0 < 2147483648) (g1 : 0 ≤ sp) (g2 : 0 ≤ dp') (g3 : 0 ≤ n) (g4 : sp + n ≤ n0) (g5 : dp' + n ≤ n1) (k : ∀ h1, frm (fun b _ => b = a) h h1 → (∀ j : Int, 0 ≤ j → rI h1 a j = if dp' ≤ j ∧ j < dp' + n then rI h a0 (j - dp' + sp) else rI h a j) → mEv T ad M dp lim cal Q (pc + 3) L r h1 zz) : mEv T ad M dp lim cal Q pc L (.int (zI n) :: .int (zI dp') :: .ref a :: .int (zI sp) :: .ref a0 :: r) h zz := by
  have e1 : (zI sp).toNatClampNeg = sp.toNat := zI_clamp g1 (by omega)
  have e2 : (zI dp').toNatClampNeg = dp'.toNat := zI_clamp g2 (by omega)
  have e3 : (zI n).toNatClampNeg = n.toNat := zI_clamp g3 (by omega)
  refine e_cpy hd ht h8 hs hs0 (Or.inr rfl) (zI_nlt g1 (by omega)) (zI_nlt g2 (by omega)) (zI_nlt g3 (by omega)) (by rw [e1, e3]; omega) (by rw [e2, e3]; omega) (fun _ _ => rfl) (k _ (frm_A h a _) (fun j h0 => ?_))
  rw [rI_wA, e1, e2, e3]
  unfold va_cpy
  by_cases c : dp' ≤ j ∧ j < dp' + n
  · rw [if_pos c, if_pos (by omega)]
    unfold rI
    rw [show sp.toNat + (j.toNat - dp'.toNat) = (j - dp' + sp).toNat by omega]
  · rw [if_neg c, if_neg (by omega)]
    rfl
theorem z_cpyB {N : mM} {i a a0 n0 n1 : Nat} {n dp' sp : Int} (hd : decode (mMc M) pc = .ok (.invokestatic i, 3)) (ht : tMet T (mMo M) i = some (5, N)) (h8 : (r.map fun v => v.category).sum ≤ 8) (hs : mS h a = (13, n1)) (hs0 : mS h a0 = (13, n0)) (b1 : n1 < 2147483648) (b0 : n0 < 2147483648) (g1 : 0 ≤ sp) (g2 : 0 ≤ dp') (g3 : 0 ≤ n) (g4 : sp + n ≤ n0) (g5 : dp' + n ≤ n1) (g6 : ∀ j : Int, sp ≤ j → j < sp + n → -128 ≤ rI h a0 j ∧ rI h a0 j < 128) (k : ∀ h1, frm (fun b _ => b = a) h h1 → (∀ j : Int, 0 ≤ j → rI h1 a j = if dp' ≤ j ∧ j < dp' + n then rI h a0 (j - dp' + sp) else rI h a j) → mEv T ad M dp lim cal Q (pc + 3) L r h1 zz) : mEv T ad M dp lim cal Q pc L (.int (zI n) :: .int (zI dp') :: .ref a :: .int (zI sp) :: .ref a0 :: r) h zz := by
  have e1 : (zI sp).toNatClampNeg = sp.toNat := zI_clamp g1 (by omega)
  have e2 : (zI dp').toNatClampNeg = dp'.toNat := zI_clamp g2 (by omega)
  have e3 : (zI n).toNatClampNeg = n.toNat := zI_clamp g3 (by omega)
  refine e_cpy hd ht h8 hs hs0 (Or.inl rfl) (zI_nlt g1 (by omega)) (zI_nlt g2 (by omega)) (zI_nlt g3 (by omega)) (by rw [e1, e3]; omega) (by rw [e2, e3]; omega) (fun q hq => ?_) (k _ (frm_A h a _) (fun j h0 => ?_))
  · have := g6 (sp + q) (by omega) (by rw [e3] at hq; omega)
    rw [e1]
    unfold rI at this
    rw [show (sp + (q : Int)).toNat = sp.toNat + q by omega] at this
    have e7 : mI h a0 (sp.toNat + q) = zI (mI h a0 (sp.toNat + q)).toInt := (zI_toInt _).symm
    show (decide _ && decide _) = true
    have a1 : (-128 : Int32).toInt = -128 := by decide
    have a2 : (127 : Int32).toInt = 127 := by decide
    simp only [Bool.and_eq_true, decide_eq_true_eq, Int32.le_iff_toInt_le, a1, a2]
    omega
  · rw [rI_wA, e1, e2, e3]
    unfold va_cpy
    by_cases c : dp' ≤ j ∧ j < dp' + n
    · rw [if_pos c, if_pos (by omega)]
      unfold rI
      rw [show sp.toNat + (j.toNat - dp'.toNat) = (j - dp' + sp).toNat by omega]
    · rw [if_neg c, if_neg (by omega)]
      rfl
theorem z_tableV {x : Int} {df lo hi : Int} {offs : Array Int} {len : Nat} (v : Int) (t : Nat) (hd : decode (mMc M) pc = .ok (.tableswitch df lo hi offs, len)) (hx : x = v) (hv : inI v) (ht : (¬ (v < lo ∨ hi < v) → (v - lo).toNat < offs.size) ∧ (pc : Int) + mTab df lo hi offs v = (t : Int)) (k : mEv T ad M dp lim cal Q t L r h zz) : mEv T ad M dp lim cal Q pc L (.int (zI x) :: r) h zz := by
  subst hx
  refine e_table t hd ?_ ?_ k
  · rw [toInt_zI hv]; exact ht.1
  · rw [toInt_zI hv]; exact ht.2
theorem z_tableD {x : Int} {df lo hi : Int} {offs : Array Int} {len : Nat} (t : Nat) (hd : decode (mMc M) pc = .ok (.tableswitch df lo hi offs, len)) (hv : inI x) (hx : x < lo ∨ hi < x) (ht : (pc : Int) + df = (t : Int)) (k : mEv T ad M dp lim cal Q t L r h zz) : mEv T ad M dp lim cal Q pc L (.int (zI x) :: r) h zz := by
  refine e_table t hd ?_ ?_ k
  · rw [toInt_zI hv]; exact fun q => absurd hx q
  · rw [toInt_zI hv]; unfold mTab; rw [if_pos hx]; exact ht
theorem z_lookupV {x : Int} {df : Int} {ps : Array (Int × Int)} {len : Nat} (v : Int) (t : Nat) (hd : decode (mMc M) pc = .ok (.lookupswitch df ps, len)) (hx : x = v) (hv : inI v) (ht : (ps.toList.zip (ps.toList.drop 1)).all (fun (a, next) => a.1 < next.1) = true ∧ (pc : Int) + Op.lookupswitch.offset ps.toList df v = (t : Int)) (k : mEv T ad M dp lim cal Q t L r h zz) : mEv T ad M dp lim cal Q pc L (.int (zI x) :: r) h zz := by
  subst hx
  refine e_lookup t hd ht.1 ?_ k
  rw [toInt_zI hv]; exact ht.2
theorem z_lookupD {x : Int} {df : Int} {ps : Array (Int × Int)} {len : Nat} (t : Nat) (hd : decode (mMc M) pc = .ok (.lookupswitch df ps, len)) (hv : inI x) (hp : (ps.toList.zip (ps.toList.drop 1)).all (fun (a, next) => a.1 < next.1) = true) (hx : Op.lookupswitch.offset ps.toList df x = df) (ht : (pc : Int) + df = (t : Int)) (k : mEv T ad M dp lim cal Q t L r h zz) : mEv T ad M dp lim cal Q pc L (.int (zI x) :: r) h zz := by
  refine e_lookup t hd hp ?_ k
  rw [toInt_zI hv, hx]; exact ht
theorem z_ald {a n kd : Nat} {z : Int} (v : Value) (hd : decode (mMc M) pc = .ok (.aaload, 1)) (hs : mS h a = (kd, n)) (h17 : 17 ≤ kd) (h21 : kd < 21) (hn : n < 2147483648) (h0 : 0 ≤ z) (h1 : z < n) (hv : va_rf (mR h a z.toNat) = v) (k : mEv T ad M dp lim cal Q (pc + 1) L (v :: r) h zz) : mEv T ad M dp lim cal Q pc L (.int (zI z) :: .ref a :: r) h zz := e_ald v hd hs h17 h21 (zI_in h0 h1 hn) (by rw [zI_clamp h0 (by omega)]; exact hv) k
end ZRow2
