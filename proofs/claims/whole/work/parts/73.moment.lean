/-! LONG CELLS; MOMENT (begun) -/
theorem dX12_tens_0 : decode cX12_tens 0 = .ok (.lconst 1, 1) := by decide +kernel
theorem dX12_tens_1 : decode cX12_tens 1 = .ok (.lstore_n 1, 1) := by decide +kernel
theorem dX12_tens_2 : decode cX12_tens 2 = .ok (.iconst 0, 1) := by decide +kernel
theorem dX12_tens_3 : decode cX12_tens 3 = .ok (.istore_n 3, 1) := by decide +kernel
theorem dX12_tens_4 : decode cX12_tens 4 = .ok (.iload_n 3, 1) := by decide +kernel
theorem dX12_tens_5 : decode cX12_tens 5 = .ok (.iload_n 0, 1) := by decide +kernel
theorem dX12_tens_6 : decode cX12_tens 6 = .ok (.if_icmp .ge 15, 3) := by decide +kernel
theorem dX12_tens_9 : decode cX12_tens 9 = .ok (.lload_n 1, 1) := by decide +kernel
theorem dX12_tens_10 : decode cX12_tens 10 = .ok (.ldc2_w 475, 3) := by decide +kernel
theorem dX12_tens_13 : decode cX12_tens 13 = .ok (.lmul, 1) := by decide +kernel
theorem dX12_tens_14 : decode cX12_tens 14 = .ok (.lstore_n 1, 1) := by decide +kernel
theorem dX12_tens_15 : decode cX12_tens 15 = .ok (.iinc 3 1, 3) := by decide +kernel
theorem dX12_tens_18 : decode cX12_tens 18 = .ok (.goto (-14), 3) := by decide +kernel
theorem dX12_tens_21 : decode cX12_tens 21 = .ok (.lload_n 1, 1) := by decide +kernel
theorem dX12_tens_22 : decode cX12_tens 22 = .ok (.lreturn, 1) := by decide +kernel
theorem dX12_nowBy_0 : decode cX12_nowBy 0 = .ok (.iload_n 1, 1) := by decide +kernel
theorem dX12_nowBy_1 : decode cX12_nowBy 1 = .ok (.iload_n 0, 1) := by decide +kernel
theorem dX12_nowBy_2 : decode cX12_nowBy 2 = .ok (.iconst 1, 1) := by decide +kernel
theorem dX12_nowBy_3 : decode cX12_nowBy 3 = .ok (.iadd, 1) := by decide +kernel
theorem dX12_nowBy_4 : decode cX12_nowBy 4 = .ok (.imul, 1) := by decide +kernel
theorem dX12_nowBy_5 : decode cX12_nowBy 5 = .ok (.i2l, 1) := by decide +kernel
theorem dX12_nowBy_6 : decode cX12_nowBy 6 = .ok (.iload_n 2, 1) := by decide +kernel
theorem dX12_nowBy_7 : decode cX12_nowBy 7 = .ok (.invokestatic 477, 3) := by decide +kernel
theorem dX12_nowBy_10 : decode cX12_nowBy 10 = .ok (.lmul, 1) := by decide +kernel
theorem dX12_nowBy_11 : decode cX12_nowBy 11 = .ok (.lreturn, 1) := by decide +kernel
theorem dX12_thenBy_0 : decode cX12_thenBy 0 = .ok (.bipush 10, 2) := by decide +kernel
theorem dX12_thenBy_2 : decode cX12_thenBy 2 = .ok (.iload_n 1, 1) := by decide +kernel
theorem dX12_thenBy_3 : decode cX12_thenBy 3 = .ok (.isub, 1) := by decide +kernel
theorem dX12_thenBy_4 : decode cX12_thenBy 4 = .ok (.i2l, 1) := by decide +kernel
theorem dX12_thenBy_5 : decode cX12_thenBy 5 = .ok (.aload_n 0, 1) := by decide +kernel
theorem dX12_thenBy_6 : decode cX12_thenBy 6 = .ok (.getfield 87, 3) := by decide +kernel
theorem dX12_thenBy_9 : decode cX12_thenBy 9 = .ok (.bipush 10, 2) := by decide +kernel
theorem dX12_thenBy_11 : decode cX12_thenBy 11 = .ok (.iload_n 2, 1) := by decide +kernel
theorem dX12_thenBy_12 : decode cX12_thenBy 12 = .ok (.iconst 1, 1) := by decide +kernel
theorem dX12_thenBy_13 : decode cX12_thenBy 13 = .ok (.isub, 1) := by decide +kernel
theorem dX12_thenBy_14 : decode cX12_thenBy 14 = .ok (.imul, 1) := by decide +kernel
theorem dX12_thenBy_15 : decode cX12_thenBy 15 = .ok (.bipush 9, 2) := by decide +kernel
theorem dX12_thenBy_17 : decode cX12_thenBy 17 = .ok (.iload_n 1, 1) := by decide +kernel
theorem dX12_thenBy_18 : decode cX12_thenBy 18 = .ok (.iconst 1, 1) := by decide +kernel
theorem dX12_thenBy_19 : decode cX12_thenBy 19 = .ok (.iadd, 1) := by decide +kernel
theorem dX12_thenBy_20 : decode cX12_thenBy 20 = .ok (.invokestatic 340, 3) := by decide +kernel
theorem dX12_thenBy_23 : decode cX12_thenBy 23 = .ok (.iadd, 1) := by decide +kernel
theorem dX12_thenBy_24 : decode cX12_thenBy 24 = .ok (.laload, 1) := by decide +kernel
theorem dX12_thenBy_25 : decode cX12_thenBy 25 = .ok (.lmul, 1) := by decide +kernel
theorem dX12_thenBy_26 : decode cX12_thenBy 26 = .ok (.lreturn, 1) := by decide +kernel
set_option maxRecDepth 20000 in
theorem tm_12_477 : tMet TB0 12 477 = some (1, M_X12_tens) := rfl
theorem tl_12_475 : tLdl TB0 12 475 = some (10) := rfl
/-! LONG CELLS -/
def rJ (h : mH) (a : Nat) (z : Int) : Int := (mJ h a z.toNat).toInt
theorem rJ_i (h : mH) (a : Nat) (z : Int) : -9223372036854775808 ≤ rJ h a z ∧ rJ h a z < 9223372036854775808 := ⟨Int64.le_toInt _, Int64.toInt_lt _⟩
theorem mJ_r (h : mH) (a : Nat) (z : Int) : mJ h a z.toNat = zJ (rJ h a z) := (zJ_toInt _).symm
def sJ (h : mH) (a : Nat) (z v : Int) : mH := wJ h a z.toNat (zJ v)
theorem mJ_sJ (h : mH) (a b : Nat) (z v : Int) (k : Nat) : mJ (sJ h a z v) b k = if b = a ∧ k = z.toNat then zJ v else mJ h b k := by
  show (if b = a then vp_updL (mJ h b) z.toNat (zJ v) else mJ h b) k = _
  by_cases hb : b = a
  · subst hb
    by_cases hk : k = z.toNat
    · subst hk
      rw [if_pos rfl, if_pos ⟨rfl, rfl⟩]
      exact if_pos rfl
    · rw [if_pos rfl, if_neg (fun q => hk q.2)]
      exact if_neg hk
  · rw [if_neg hb, if_neg (fun q => hb q.1)]
theorem rJ_eq {h h1 : mH} {a : Nat} {z v : Int} (e : h1 = sJ h a z v) (hv : inJ v) : rJ h1 a z = v := by
  subst e; unfold rJ; rw [mJ_sJ, if_pos ⟨rfl, rfl⟩, toInt_zJ hv]
theorem frm_1J {h h1 : mH} {a : Nat} {z v : Int} (e : h1 = sJ h a z v) : frm (fun b k => b = a ∧ k = z.toNat) h h1 := by
  subst e
  exact ⟨⟨rfl, rfl, rfl⟩, fun _ _ _ => rfl, fun b k n => by rw [mJ_sJ, if_neg n]⟩
theorem frm_rJ {S : Nat → Nat → Prop} {h h1 : mH} {a : Nat} {z : Int} (f : frm S h h1) (n : ¬ S a z.toNat) : rJ h1 a z = rJ h a z := by unfold rJ; rw [f.2.2 _ _ n]
section ZLong2
variable {T : mTb} {ad : mA} {M : mM} {dp : Nat} {lim : Nat × Nat} {cal : mC} {Q : mZ} {pc : Nat} {L L' : mL} {h : mH} {zz : Nat × Nat} {r st : List Value}
theorem z_getJ {a i c j : Nat} (v : Int) (hd : decode (mMc M) pc = .ok (.getfield i, 3)) (ht : tFld T (mMo M) i = some (c, j)) (hs : (mS h a).1 = c) (hy : mty c j = .long) (hv : rJ h a j = v) (k : mEv T ad M dp lim cal Q (pc + 3) L (.long (zJ v) :: r) h zz) : mEv T ad M dp lim cal Q pc L (.ref a :: r) h zz := e_get (.long (zJ v)) hd ht hs (by rw [← hv]; unfold mfv; rw [hy]; exact congrArg Value.long (mJ_r h a j)) k
theorem z_putJ {a i c j : Nat} {v : Int} (hd : decode (mMc M) pc = .ok (.putfield i, 3)) (ht : tFld T (mMo M) i = some (c, j)) (hs : (mS h a).1 = c) (hy : mty c j = .long) (hfin : (mTT c j).2.2.2 = false ∨ ((mMn M).name = "<init>" ∧ c = mMo M)) (k : ∀ h1, h1 = sJ h a j v → mEv T ad M dp lim cal Q (pc + 3) L r h1 zz) : mEv T ad M dp lim cal Q pc L (.long (zJ v) :: .ref a :: r) h zz := e_putJ hd ht hs hy hfin (k _ rfl)
theorem z_lld {a n : Nat} {z : Int} (v : Int) (hd : decode (mMc M) pc = .ok (.laload, 1)) (hs : mS h a = (15, n)) (hn : n < 2147483648) (h0 : 0 ≤ z) (h1 : z < n) (hv : rJ h a z = v) (k : mEv T ad M dp lim cal Q (pc + 1) L (.long (zJ v) :: r) h zz) : mEv T ad M dp lim cal Q pc L (.int (zI z) :: .ref a :: r) h zz := e_lld z.toNat hd hs (zI_in h0 h1 hn) (zI_clamp h0 (by omega)) (by rw [mJ_r, hv]; exact k)
theorem z_lst {a n : Nat} {z v : Int} (hd : decode (mMc M) pc = .ok (.lastore, 1)) (hs : mS h a = (15, n)) (hn : n < 2147483648) (h0 : 0 ≤ z) (h1 : z < n) (k : ∀ h1, h1 = sJ h a z v → mEv T ad M dp lim cal Q (pc + 1) L r h1 zz) : mEv T ad M dp lim cal Q pc L (.long (zJ v) :: .int (zI z) :: .ref a :: r) h zz := e_lst z.toNat hd hs (zI_in h0 h1 hn) (zI_clamp h0 (by omega)) (k _ rfl)
end ZLong2
/-! MOMENT -/
def tnZ (n : Int) : Int := ((10 ^ n.toNat : Nat) : Int)
theorem tnZ_s {n : Int} (h : 0 ≤ n) : tnZ (n + 1) = tnZ n * 10 := by
  unfold tnZ
  rw [show (n + 1).toNat = n.toNat + 1 by omega, Nat.pow_succ]
  exact Int.natCast_mul _ _
theorem tnZ_b {n : Int} (h0 : 0 ≤ n) (h1 : n ≤ 9) : 1 ≤ tnZ n ∧ tnZ n ≤ 1000000000 := by
  have a := Nat.pow_le_pow_right (n := 10) (by omega) (show n.toNat ≤ 9 by omega)
  have c := Nat.pow_le_pow_right (n := 10) (by omega) (show 0 ≤ n.toNat by omega)
  unfold tnZ; omega
def moN (v : Int) : Nat → Int → Int
  | 0, w => v * (w + 1)
  | n + 1, w => max (v * (w + 1) * tnZ ((n : Int) + 1)) ((10 - w) * moN v n (min 9 (w + 1)))
def moZ (v n w : Int) : Int := moN v n.toNat w
theorem moZ_s {v n w : Int} (h : 0 ≤ n) : moZ v (n + 1) w = max (v * (w + 1) * tnZ (n + 1)) ((10 - w) * moZ v n (min 9 (w + 1))) := by
  unfold moZ
  rw [show (n + 1).toNat = n.toNat + 1 by omega]
  show max (v * (w + 1) * tnZ ((n.toNat : Int) + 1)) _ = _
  rw [Int.toNat_of_nonneg h]
theorem vw_b {v w : Int} (hv : 0 ≤ v ∧ v ≤ 9) (hw : 0 ≤ w ∧ w ≤ 9) : 0 ≤ v * (w + 1) ∧ v * (w + 1) ≤ 90 := by
  refine ⟨Int.mul_nonneg hv.1 (by omega), ?_⟩
  calc v * (w + 1) ≤ 9 * (w + 1) := Int.mul_le_mul_of_nonneg_right hv.2 (by omega)
    _ ≤ 90 := by omega
theorem moN_b {v : Int} (hv : 0 ≤ v ∧ v ≤ 9) (n : Nat) (hn : n ≤ 9) (w : Int) (hw : 0 ≤ w ∧ w ≤ 9) : 0 ≤ moN v n w ∧ moN v n w ≤ 90 * tnZ n := by
  induction n generalizing w with
  | zero =>
    have := vw_b hv hw
    show 0 ≤ v * (w + 1) ∧ v * (w + 1) ≤ 90 * tnZ (0 : Int)
    have e : tnZ (0 : Int) = 1 := rfl
    omega
  | succ n ih =>
    have i1 := ih (by omega) (min 9 (w + 1)) (by omega)
    have t1 := tnZ_b (n := (n : Int)) (by omega) (by omega)
    have t2 : tnZ ((n : Int) + 1) = tnZ n * 10 := tnZ_s (by omega)
    have x := vw_b hv hw
    show 0 ≤ max (v * (w + 1) * tnZ ((n : Int) + 1)) ((10 - w) * moN v n (min 9 (w + 1))) ∧ max (v * (w + 1) * tnZ ((n : Int) + 1)) ((10 - w) * moN v n (min 9 (w + 1))) ≤ 90 * tnZ (((n + 1 : Nat) : Int))
    rw [show (((n + 1 : Nat) : Int)) = (n : Int) + 1 by omega]
    have a1 : 0 ≤ v * (w + 1) * tnZ ((n : Int) + 1) := Int.mul_nonneg x.1 (by omega)
    have a2 : v * (w + 1) * tnZ ((n : Int) + 1) ≤ 90 * tnZ ((n : Int) + 1) := Int.mul_le_mul_of_nonneg_right x.2 (by omega)
    have a3 : (10 - w) * moN v n (min 9 (w + 1)) ≤ 10 * moN v n (min 9 (w + 1)) := Int.mul_le_mul_of_nonneg_right (by omega) i1.1
    omega
theorem moZ_b {v n w : Int} (hv : 0 ≤ v ∧ v ≤ 9) (hn : 0 ≤ n ∧ n ≤ 9) (hw : 0 ≤ w ∧ w ≤ 9) : 0 ≤ moZ v n w ∧ moZ v n w ≤ 90000000000 := by
  have a := moN_b hv n.toNat (by omega) w hw
  have t1 := tnZ_b hn.1 hn.2
  rw [Int.toNat_of_nonneg hn.1] at a
  unfold moZ; omega
theorem nb_b {v w n : Int} (hv : 0 ≤ v ∧ v ≤ 9) (hw : 0 ≤ w ∧ w ≤ 9) (hn : 0 ≤ n ∧ n ≤ 9) : 0 ≤ v * (w + 1) * tnZ n ∧ v * (w + 1) * tnZ n ≤ 90000000000 := by
  have x := vw_b hv hw
  have t1 := tnZ_b hn.1 hn.2
  have a1 : 0 ≤ v * (w + 1) * tnZ n := Int.mul_nonneg x.1 (by omega)
  have a2 : v * (w + 1) * tnZ n ≤ 90 * tnZ n := Int.mul_le_mul_of_nonneg_right x.2 (by omega)
  omega
theorem tb_b {w m : Int} (hw : 0 ≤ w ∧ w ≤ 9) (hm : 0 ≤ m ∧ m ≤ 90000000000) : 0 ≤ (10 - w) * m ∧ (10 - w) * m ≤ 900000000000 := by
  refine ⟨Int.mul_nonneg (by omega) hm.1, ?_⟩
  calc (10 - w) * m ≤ 10 * m := Int.mul_le_mul_of_nonneg_right (by omega) hm.1
    _ ≤ 900000000000 := by omega
def moR (h : mH) (m : Nat) (v N : Int) : Prop := ∀ n w : Int, 0 ≤ n → n < N → 0 ≤ w → w ≤ 9 → rJ h (m + 26) (10 * n + w) = moZ v n w
theorem moR_c {S : Nat → Nat → Prop} {h h1 : mH} {m : Nat} {v N : Int} (s : frm S h h1) (q : ∀ k : Nat, k < 10 * N.toNat → ¬ S (m + 26) k) (H : moR h m v N) : moR h1 m v N := fun n w a b c d => (frm_rJ s (q _ (by omega))).trans (H n w a b c d)
theorem moR_up {h : mH} {m : Nat} {v N : Int} (H : moR h m v N) (r : ∀ w : Int, 0 ≤ w → w < 10 → rJ h (m + 26) (10 * N + w) = moZ v N w) : moR h m v (N + 1) := fun n w a b c d => by
  by_cases z : n = N
  · subst z; exact r w c (by omega)
  · exact H n w a (by omega) c d
set_option maxHeartbeats 400000 in
theorem zp_X12_tens {ad : mA} {dd : Nat} {h : mH} {Q : mQ}    (n : Int) (n_r : -2147483648 ≤ n ∧ n < 2147483648) (p1 : 0 ≤ n ∧ n ≤ 9) (kq : Q (some (.long (zJ (tnZ n)))) h) : mCal TB0 ad (dd + 1) M_X12_tens [.int (zI n)] h 0 0 Q := by
  refine ⟨Nat.le_of_ble_eq_true rfl, ?_⟩
  show mEv TB0 ad M_X12_tens (dd + 1) (0, 0) (mCal TB0 ad (dd + 0)) (fun v h' z => z.1 = 0 ∧ Q v h') 0 [some (.int (zI n)), none, none, none] [] h (0, 0)
  refine z_lconst (1) dX12_tens_0 rfl ?_
  refine e_lstore_n (L' := [_, _, _, _]) dX12_tens_1 (Nat.le_of_ble_eq_true rfl) rfl ?_
  refine z_iconst (0) dX12_tens_2 rfl ?_
  refine e_istore_n (L' := [_, _, _, _]) dX12_tens_3 (Nat.le_of_ble_eq_true rfl) rfl ?_
  have lp1 : ∀ (n1 : Nat) (t i : Int), (n - i).toNat = n1 → (0 ≤ i) → (i ≤ n) → (t = tnZ i) → mEv TB0 ad M_X12_tens (dd + 1) (0, 0) (mCal TB0 ad (dd + 0)) (fun v h' z => z.1 = 0 ∧ Q v h') 4 [some (.int (zI n)), some (.long (zJ t)), none, some (.int (zI i))] [] h (0, 0) := by
    intro n1
    induction n1 using Nat.strongRecOn with
    | ind n1 ih1 =>
    intro t i  hn1  I1 I2 I3
    refine e_iload_n dX12_tens_4 rfl ?_
    refine e_iload_n dX12_tens_5 rfl ?_
    refine z_icmp_ge 21 dX12_tens_6 rfl ⟨by omega, by omega⟩ ⟨by omega, by omega⟩ (fun c2 => ?_) (fun c2 => ?_)
    · skip
      refine e_lload_n dX12_tens_21 rfl ?_
      refine z_lret dX12_tens_22 rfl ⟨rfl, ?_⟩
      refine z_qJ kq ?_
      rw [I3, show i = n by omega]
    · skip
      refine e_lload_n dX12_tens_9 rfl ?_
      refine z_ldc2 (10) dX12_tens_10 tl_12_475 rfl ?_
      refine z_lmul dX12_tens_13 ?_
      refine e_lstore_n (L' := [_, _, _, _]) dX12_tens_14 (Nat.le_of_ble_eq_true rfl) rfl ?_
      refine z_iinc (L' := [_, _, _, _]) dX12_tens_15 rfl rfl ?_
      refine e_goto 4 dX12_tens_18 rfl ?_
      exact ih1 _ (by omega) (t * 10) (i + 1)  rfl  (by omega) (by omega) (by rw [tnZ_s (by omega), I3])
  exact lp1 _ 1 0  rfl  (by omega) (by omega) rfl
set_option maxHeartbeats 400000 in
theorem zp_X12_nowBy {ad : mA} {dd : Nat} {h : mH} {Q : mQ}    (w : Int) (w_r : -2147483648 ≤ w ∧ w < 2147483648) (v : Int) (v_r : -2147483648 ≤ v ∧ v < 2147483648) (n : Int) (n_r : -2147483648 ≤ n ∧ n < 2147483648) (p1 : 0 ≤ w ∧ w ≤ 9) (p2 : 0 ≤ v ∧ v ≤ 9) (p3 : 0 ≤ n ∧ n ≤ 9) (kq : Q (some (.long (zJ (v * (w + 1) * tnZ n)))) h) : mCal TB0 ad (dd + 2) M_X12_nowBy [.int (zI w), .int (zI v), .int (zI n)] h 0 0 Q := by
  refine ⟨Nat.le_of_ble_eq_true rfl, ?_⟩
  show mEv TB0 ad M_X12_nowBy (dd + 2) (0, 0) (mCal TB0 ad (dd + 1)) (fun v h' z => z.1 = 0 ∧ Q v h') 0 [some (.int (zI w)), some (.int (zI v)), some (.int (zI n))] [] h (0, 0)
  have vb := vw_b p2 p1
  refine e_iload_n dX12_nowBy_0 rfl ?_
  refine e_iload_n dX12_nowBy_1 rfl ?_
  refine z_iconst (1) dX12_nowBy_2 rfl ?_
  refine z_iadd dX12_nowBy_3 ?_
  refine z_imul dX12_nowBy_4 ?_
  refine z_i2l dX12_nowBy_5 ⟨by omega, by omega⟩ ?_
  refine e_iload_n dX12_nowBy_6 rfl ?_
  refine e_callS [.int _] dX12_nowBy_7 tm_12_477 rfl (Nat.le_of_ble_eq_true rfl) (Nat.le_refl _) (Nat.le_refl _) rfl (zp_X12_tens n ⟨by omega, by omega⟩ (by omega) ?_)
  refine z_lmul dX12_nowBy_10 ?_
  refine z_lret dX12_nowBy_11 rfl ⟨rfl, ?_⟩
  refine z_qJ kq ?_
  rfl
set_option maxHeartbeats 400000 in
theorem zp_X12_thenBy {ad : mA} {dd : Nat} {h : mH} {Q : mQ} {m : Nat} {v N : Int} (hk : rk h m) (HG : moR h m v N)  (w : Int) (w_r : -2147483648 ≤ w ∧ w < 2147483648) (n : Int) (n_r : -2147483648 ≤ n ∧ n < 2147483648) (p1 : 0 ≤ w ∧ w ≤ 9) (p3 : 1 ≤ n ∧ n ≤ 9) (p4 : n ≤ N) (kq : Q (some (.long (zJ ((10 - w) * moZ v (n - 1) (min 9 (w + 1)))))) h) : mCal TB0 ad (dd + 2) M_X12_thenBy [.ref m, .int (zI w), .int (zI n)] h 0 0 Q := by
  refine ⟨Nat.le_of_ble_eq_true rfl, ?_⟩
  show mEv TB0 ad M_X12_thenBy (dd + 2) (0, 0) (mCal TB0 ad (dd + 1)) (fun v h' z => z.1 = 0 ∧ Q v h') 0 [some (.ref m), some (.int (zI w)), some (.int (zI n))] [] h (0, 0)
  refine z_bipush (10) dX12_thenBy_0 rfl ?_
  refine e_iload_n dX12_thenBy_2 rfl ?_
  refine z_isub dX12_thenBy_3 ?_
  refine z_i2l dX12_thenBy_4 ⟨by omega, by omega⟩ ?_
  refine e_aload_n dX12_thenBy_5 rfl ?_
  refine e_get (.ref (m + 26)) dX12_thenBy_6 tf_12_87 (rk_s hk) (congrArg va_rf (rk_r26 hk)) ?_
  refine z_bipush (10) dX12_thenBy_9 rfl ?_
  refine e_iload_n dX12_thenBy_11 rfl ?_
  refine z_iconst (1) dX12_thenBy_12 rfl ?_
  refine z_isub dX12_thenBy_13 ?_
  refine z_imul dX12_thenBy_14 ?_
  refine z_bipush (9) dX12_thenBy_15 rfl ?_
  refine e_iload_n dX12_thenBy_17 rfl ?_
  refine z_iconst (1) dX12_thenBy_18 rfl ?_
  refine z_iadd dX12_thenBy_19 ?_
  refine e_callS [.int _, .int _] dX12_thenBy_20 tm_12_340 rfl (Nat.le_of_ble_eq_true rfl) (Nat.le_refl _) (Nat.le_refl _) rfl (zp_X12_lesser 9 ⟨by omega, by omega⟩ (w + 1) ⟨by omega, by omega⟩ ?_)
  refine z_iadd dX12_thenBy_23 ?_
  refine z_lld (moZ v (n - 1) (min 9 (w + 1))) dX12_thenBy_24 (rk_a26 hk) (by decide) (by omega) (by omega) (HG (n - 1) (min 9 (w + 1)) (by omega) (by omega) (by omega) (by omega)) ?_
  refine z_lmul dX12_thenBy_25 ?_
  refine z_lret dX12_thenBy_26 rfl ⟨rfl, ?_⟩
  refine z_qJ kq ?_
  rfl
