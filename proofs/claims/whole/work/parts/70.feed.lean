/-! FEED -/
theorem dX8_append_0 : decode cX8_append 0 = .ok (.bipush 24, 2) := by decide +kernel
theorem dX8_append_2 : decode cX8_append 2 = .ok (.istore_n 2, 1) := by decide +kernel
theorem dX8_append_3 : decode cX8_append 3 = .ok (.iload_n 2, 1) := by decide +kernel
theorem dX8_append_4 : decode cX8_append 4 = .ok (.ifCond .lt 42, 3) := by decide +kernel
theorem dX8_append_7 : decode cX8_append 7 = .ok (.aload_n 0, 1) := by decide +kernel
theorem dX8_append_8 : decode cX8_append 8 = .ok (.getfield 37, 3) := by decide +kernel
theorem dX8_append_11 : decode cX8_append 11 = .ok (.sipush 600, 3) := by decide +kernel
theorem dX8_append_14 : decode cX8_append 14 = .ok (.if_icmp .ge 32, 3) := by decide +kernel
theorem dX8_append_17 : decode cX8_append 17 = .ok (.aload_n 0, 1) := by decide +kernel
theorem dX8_append_18 : decode cX8_append 18 = .ok (.getfield 9, 3) := by decide +kernel
theorem dX8_append_21 : decode cX8_append 21 = .ok (.aload_n 0, 1) := by decide +kernel
theorem dX8_append_22 : decode cX8_append 22 = .ok (.getfield 37, 3) := by decide +kernel
theorem dX8_append_25 : decode cX8_append 25 = .ok (.iload_n 1, 1) := by decide +kernel
theorem dX8_append_26 : decode cX8_append 26 = .ok (.iload_n 2, 1) := by decide +kernel
theorem dX8_append_27 : decode cX8_append 27 = .ok (.iushr, 1) := by decide +kernel
theorem dX8_append_28 : decode cX8_append 28 = .ok (.i2b, 1) := by decide +kernel
theorem dX8_append_29 : decode cX8_append 29 = .ok (.bastore, 1) := by decide +kernel
theorem dX8_append_30 : decode cX8_append 30 = .ok (.aload_n 0, 1) := by decide +kernel
theorem dX8_append_31 : decode cX8_append 31 = .ok (.dup, 1) := by decide +kernel
theorem dX8_append_32 : decode cX8_append 32 = .ok (.getfield 37, 3) := by decide +kernel
theorem dX8_append_35 : decode cX8_append 35 = .ok (.iconst 1, 1) := by decide +kernel
theorem dX8_append_36 : decode cX8_append 36 = .ok (.iadd, 1) := by decide +kernel
theorem dX8_append_37 : decode cX8_append 37 = .ok (.putfield 37, 3) := by decide +kernel
theorem dX8_append_40 : decode cX8_append 40 = .ok (.iinc 2 (-8), 3) := by decide +kernel
theorem dX8_append_43 : decode cX8_append 43 = .ok (.goto (-40), 3) := by decide +kernel
theorem dX8_append_46 : decode cX8_append 46 = .ok (.return_, 1) := by decide +kernel
theorem dX11_feed_0 : decode cX11_feed 0 = .ok (.aload_n 0, 1) := by decide +kernel
theorem dX11_feed_1 : decode cX11_feed 1 = .ok (.getfield 10, 3) := by decide +kernel
theorem dX11_feed_4 : decode cX11_feed 4 = .ok (.getfield 62, 3) := by decide +kernel
theorem dX11_feed_7 : decode cX11_feed 7 = .ok (.bipush 20, 2) := by decide +kernel
theorem dX11_feed_9 : decode cX11_feed 9 = .ok (.iadd, 1) := by decide +kernel
theorem dX11_feed_10 : decode cX11_feed 10 = .ok (.sipush 600, 3) := by decide +kernel
theorem dX11_feed_13 : decode cX11_feed 13 = .ok (.if_icmp .le 5, 3) := by decide +kernel
theorem dX11_feed_16 : decode cX11_feed 16 = .ok (.iconst (-1), 1) := by decide +kernel
theorem dX11_feed_17 : decode cX11_feed 17 = .ok (.ireturn, 1) := by decide +kernel
theorem dX11_feed_18 : decode cX11_feed 18 = .ok (.aload_n 0, 1) := by decide +kernel
theorem dX11_feed_19 : decode cX11_feed 19 = .ok (.getfield 10, 3) := by decide +kernel
theorem dX11_feed_22 : decode cX11_feed 22 = .ok (.iload_n 1, 1) := by decide +kernel
theorem dX11_feed_23 : decode cX11_feed 23 = .ok (.invokevirtual 66, 3) := by decide +kernel
theorem dX11_feed_26 : decode cX11_feed 26 = .ok (.aload_n 0, 1) := by decide +kernel
theorem dX11_feed_27 : decode cX11_feed 27 = .ok (.getfield 10, 3) := by decide +kernel
theorem dX11_feed_30 : decode cX11_feed 30 = .ok (.iload_n 2, 1) := by decide +kernel
theorem dX11_feed_31 : decode cX11_feed 31 = .ok (.invokevirtual 66, 3) := by decide +kernel
theorem dX11_feed_34 : decode cX11_feed 34 = .ok (.aload_n 0, 1) := by decide +kernel
theorem dX11_feed_35 : decode cX11_feed 35 = .ok (.getfield 10, 3) := by decide +kernel
theorem dX11_feed_38 : decode cX11_feed 38 = .ok (.iload_n 3, 1) := by decide +kernel
theorem dX11_feed_39 : decode cX11_feed 39 = .ok (.invokevirtual 66, 3) := by decide +kernel
theorem dX11_feed_42 : decode cX11_feed 42 = .ok (.aload_n 0, 1) := by decide +kernel
theorem dX11_feed_43 : decode cX11_feed 43 = .ok (.getfield 10, 3) := by decide +kernel
theorem dX11_feed_46 : decode cX11_feed 46 = .ok (.iload 4, 2) := by decide +kernel
theorem dX11_feed_48 : decode cX11_feed 48 = .ok (.invokevirtual 66, 3) := by decide +kernel
theorem dX11_feed_51 : decode cX11_feed 51 = .ok (.aload_n 0, 1) := by decide +kernel
theorem dX11_feed_52 : decode cX11_feed 52 = .ok (.getfield 10, 3) := by decide +kernel
theorem dX11_feed_55 : decode cX11_feed 55 = .ok (.iload 5, 2) := by decide +kernel
theorem dX11_feed_57 : decode cX11_feed 57 = .ok (.invokevirtual 66, 3) := by decide +kernel
theorem dX11_feed_60 : decode cX11_feed 60 = .ok (.aload_n 0, 1) := by decide +kernel
theorem dX11_feed_61 : decode cX11_feed 61 = .ok (.getfield 10, 3) := by decide +kernel
theorem dX11_feed_64 : decode cX11_feed 64 = .ok (.getfield 62, 3) := by decide +kernel
theorem dX11_feed_67 : decode cX11_feed 67 = .ok (.ireturn, 1) := by decide +kernel
theorem dX12_feed_0 : decode cX12_feed 0 = .ok (.aload_n 0, 1) := by decide +kernel
theorem dX12_feed_1 : decode cX12_feed 1 = .ok (.iconst 0, 1) := by decide +kernel
theorem dX12_feed_2 : decode cX12_feed 2 = .ok (.putfield 103, 3) := by decide +kernel
theorem dX12_feed_5 : decode cX12_feed 5 = .ok (.aload_n 0, 1) := by decide +kernel
theorem dX12_feed_6 : decode cX12_feed 6 = .ok (.getfield 13, 3) := by decide +kernel
theorem dX12_feed_9 : decode cX12_feed 9 = .ok (.iconst 0, 1) := by decide +kernel
theorem dX12_feed_10 : decode cX12_feed 10 = .ok (.iaload, 1) := by decide +kernel
theorem dX12_feed_11 : decode cX12_feed 11 = .ok (.bipush 20, 2) := by decide +kernel
theorem dX12_feed_13 : decode cX12_feed 13 = .ok (.iadd, 1) := by decide +kernel
theorem dX12_feed_14 : decode cX12_feed 14 = .ok (.sipush 600, 3) := by decide +kernel
theorem dX12_feed_17 : decode cX12_feed 17 = .ok (.if_icmp .le 5, 3) := by decide +kernel
theorem dX12_feed_20 : decode cX12_feed 20 = .ok (.iconst (-1), 1) := by decide +kernel
theorem dX12_feed_21 : decode cX12_feed 21 = .ok (.ireturn, 1) := by decide +kernel
theorem dX12_feed_22 : decode cX12_feed 22 = .ok (.aload_n 0, 1) := by decide +kernel
theorem dX12_feed_23 : decode cX12_feed 23 = .ok (.iload_n 1, 1) := by decide +kernel
theorem dX12_feed_24 : decode cX12_feed 24 = .ok (.invokevirtual 119, 3) := by decide +kernel
theorem dX12_feed_27 : decode cX12_feed 27 = .ok (.aload_n 0, 1) := by decide +kernel
theorem dX12_feed_28 : decode cX12_feed 28 = .ok (.iload_n 2, 1) := by decide +kernel
theorem dX12_feed_29 : decode cX12_feed 29 = .ok (.invokevirtual 119, 3) := by decide +kernel
theorem dX12_feed_32 : decode cX12_feed 32 = .ok (.aload_n 0, 1) := by decide +kernel
theorem dX12_feed_33 : decode cX12_feed 33 = .ok (.iload_n 3, 1) := by decide +kernel
theorem dX12_feed_34 : decode cX12_feed 34 = .ok (.invokevirtual 119, 3) := by decide +kernel
theorem dX12_feed_37 : decode cX12_feed 37 = .ok (.aload_n 0, 1) := by decide +kernel
theorem dX12_feed_38 : decode cX12_feed 38 = .ok (.iload 4, 2) := by decide +kernel
theorem dX12_feed_40 : decode cX12_feed 40 = .ok (.invokevirtual 119, 3) := by decide +kernel
theorem dX12_feed_43 : decode cX12_feed 43 = .ok (.aload_n 0, 1) := by decide +kernel
theorem dX12_feed_44 : decode cX12_feed 44 = .ok (.iload 5, 2) := by decide +kernel
theorem dX12_feed_46 : decode cX12_feed 46 = .ok (.invokevirtual 119, 3) := by decide +kernel
theorem dX12_feed_49 : decode cX12_feed 49 = .ok (.aload_n 0, 1) := by decide +kernel
theorem dX12_feed_50 : decode cX12_feed 50 = .ok (.getfield 13, 3) := by decide +kernel
theorem dX12_feed_53 : decode cX12_feed 53 = .ok (.iconst 0, 1) := by decide +kernel
theorem dX12_feed_54 : decode cX12_feed 54 = .ok (.iaload, 1) := by decide +kernel
theorem dX12_feed_55 : decode cX12_feed 55 = .ok (.ireturn, 1) := by decide +kernel
theorem dX12_four_0 : decode cX12_four 0 = .ok (.bipush 24, 2) := by decide +kernel
theorem dX12_four_2 : decode cX12_four 2 = .ok (.istore_n 2, 1) := by decide +kernel
theorem dX12_four_3 : decode cX12_four 3 = .ok (.iload_n 2, 1) := by decide +kernel
theorem dX12_four_4 : decode cX12_four 4 = .ok (.ifCond .lt 34, 3) := by decide +kernel
theorem dX12_four_7 : decode cX12_four 7 = .ok (.aload_n 0, 1) := by decide +kernel
theorem dX12_four_8 : decode cX12_four 8 = .ok (.getfield 7, 3) := by decide +kernel
theorem dX12_four_11 : decode cX12_four 11 = .ok (.aload_n 0, 1) := by decide +kernel
theorem dX12_four_12 : decode cX12_four 12 = .ok (.getfield 13, 3) := by decide +kernel
theorem dX12_four_15 : decode cX12_four 15 = .ok (.iconst 0, 1) := by decide +kernel
theorem dX12_four_16 : decode cX12_four 16 = .ok (.iaload, 1) := by decide +kernel
theorem dX12_four_17 : decode cX12_four 17 = .ok (.iload_n 1, 1) := by decide +kernel
theorem dX12_four_18 : decode cX12_four 18 = .ok (.iload_n 2, 1) := by decide +kernel
theorem dX12_four_19 : decode cX12_four 19 = .ok (.ishr, 1) := by decide +kernel
theorem dX12_four_20 : decode cX12_four 20 = .ok (.i2b, 1) := by decide +kernel
theorem dX12_four_21 : decode cX12_four 21 = .ok (.bastore, 1) := by decide +kernel
theorem dX12_four_22 : decode cX12_four 22 = .ok (.aload_n 0, 1) := by decide +kernel
theorem dX12_four_23 : decode cX12_four 23 = .ok (.getfield 13, 3) := by decide +kernel
theorem dX12_four_26 : decode cX12_four 26 = .ok (.iconst 0, 1) := by decide +kernel
theorem dX12_four_27 : decode cX12_four 27 = .ok (.dup2, 1) := by decide +kernel
theorem dX12_four_28 : decode cX12_four 28 = .ok (.iaload, 1) := by decide +kernel
theorem dX12_four_29 : decode cX12_four 29 = .ok (.iconst 1, 1) := by decide +kernel
theorem dX12_four_30 : decode cX12_four 30 = .ok (.iadd, 1) := by decide +kernel
theorem dX12_four_31 : decode cX12_four 31 = .ok (.iastore, 1) := by decide +kernel
theorem dX12_four_32 : decode cX12_four 32 = .ok (.iinc 2 (-8), 3) := by decide +kernel
theorem dX12_four_35 : decode cX12_four 35 = .ok (.goto (-32), 3) := by decide +kernel
theorem dX12_four_38 : decode cX12_four 38 = .ok (.return_, 1) := by decide +kernel
set_option maxRecDepth 20000 in
theorem tm_11_66 : tMet TB0 11 66 = some (0, M_X8_append) := rfl
set_option maxRecDepth 20000 in
theorem tm_12_119 : tMet TB0 12 119 = some (0, M_X12_four) := rfl
/-! FEED: bytes -/
def byZ (z : Int) : Int := (Int8.ofInt z).toInt32.toInt
theorem byZ_b (z : Int) : -128 ≤ byZ z ∧ byZ z < 128 := by
  unfold byZ
  rw [Int8.toInt_toInt32]
  exact ⟨Int8.le_toInt _, Int8.toInt_lt _⟩
theorem byZ_in (z : Int) : inI (byZ z) := by
  have := byZ_b z
  exact ⟨by omega, by omega⟩
theorem byZ_c (a k : Int) : byZ (a + 256 * k) = byZ a := by
  unfold byZ
  rw [Int8.ofInt_add, Int8.ofInt_mul, show Int8.ofInt 256 = 0 by decide]
  simp
theorem byZ_i (a : Int) : byZ (byZ a) = byZ a := by
  unfold byZ
  rw [Int8.toInt_toInt32 (Int8.ofInt a), Int8.ofInt_toInt, Int8.toInt_toInt32]
theorem byZ_z (z : Int) : (zI z).toInt8.toInt32 = zI (byZ z) := by
  unfold byZ
  rw [zI_toInt]
  unfold zI
  rw [Int32.toInt8_ofInt]
section ZByte
variable {T : mTb} {ad : mA} {M : mM} {dp : Nat} {lim : Nat × Nat} {cal : mC} {Q : mZ} {pc : Nat} {L L' : mL} {h : mH} {zz : Nat × Nat} {r st : List Value}
theorem z_i2b {x : Int} (hd : decode (mMc M) pc = .ok (.i2b, 1)) (k : mEv T ad M dp lim cal Q (pc + 1) L (.int (zI (byZ x)) :: r) h zz) : mEv T ad M dp lim cal Q pc L (.int (zI x) :: r) h zz := e_i2b hd (by rw [byZ_z]; exact k)
theorem z_bst {a n : Nat} {z v : Int} (hd : decode (mMc M) pc = .ok (.bastore, 1)) (hs : mS h a = (13, n)) (hn : n < 2147483648) (h0 : 0 ≤ z) (h1 : z < n) (k : ∀ h1, h1 = sI h a z (byZ v) → mEv T ad M dp lim cal Q (pc + 1) L r h1 zz) : mEv T ad M dp lim cal Q pc L (.int (zI v) :: .int (zI z) :: .ref a :: r) h zz := e_bst z.toNat hd hs (zI_in h0 h1 hn) (zI_clamp h0 (by omega)) (by rw [byZ_z]; exact k _ rfl)
theorem zu_K : ∀ n, n < 32 → (((nI n).toUInt32 &&& Int32.toUInt32 31).toBitVec % 32).toNat = n := by decide +kernel
theorem z_iushrK {x : Int} (n : Nat) (P : Int) (hd : decode (mMc M) pc = .ok (.iushr, 1)) (hn : n < 32) (hP : ((2 ^ n : Nat) : Int) = P) (k : mEv T ad M dp lim cal Q (pc + 1) L (.int (zI (x % 4294967296 / P)) :: r) h zz) : mEv T ad M dp lim cal Q pc L (.int (zI (n : Int)) :: .int (zI x) :: r) h zz := by
  refine e_iushr hd ?_
  rw [← zI_mod x, zI_nI (show 0 ≤ x % 4294967296 by omega), zI_nat n, pk_ushrN (by omega) (nI n) n (zu_K n hn), ← zI_nat]
  rw [Int.natCast_ediv, Int.toNat_of_nonneg (by omega), hP]
  exact k
theorem z_ishrK {x : Int} (n : Nat) (P : Int) (hd : decode (mMc M) pc = .ok (.ishr, 1)) (hn : n < 32) (hP : ((2 ^ n : Nat) : Int) = P) (hx : inI x) (k : mEv T ad M dp lim cal Q (pc + 1) L (.int (zI (x / P)) :: r) h zz) : mEv T ad M dp lim cal Q pc L (.int (zI (n : Int)) :: .int (zI x) :: r) h zz := by
  refine e_ishr hd ?_
  have e : zI x >>> (nI n &&& 31) = zI (x / (2 ^ n : Nat)) := by
    rw [← zI_toInt (zI x >>> (nI n &&& 31)), pk_shr (zI x) (nI n &&& 31) n (zs_l n hn), toInt_zI hx, Int.shiftRight_eq_div_pow]
  rw [zI_nat n, e, hP]
  exact k
end ZByte
theorem by24 (x : Int) : byZ (x % 4294967296 / 16777216) = byZ (x / 16777216) := by
  rw [show x / 16777216 = x % 4294967296 / 16777216 + 256 * (x / 4294967296) by omega, byZ_c]
theorem by16 (x : Int) : byZ (x % 4294967296 / 65536) = byZ (x / 65536) := by
  rw [show x / 65536 = x % 4294967296 / 65536 + 256 * (256 * (x / 4294967296)) by omega, byZ_c]
theorem by8 (x : Int) : byZ (x % 4294967296 / 256) = byZ (x / 256) := by
  rw [show x / 256 = x % 4294967296 / 256 + 256 * (65536 * (x / 4294967296)) by omega, byZ_c]
theorem by0 (x : Int) : byZ (x % 4294967296 / 1) = byZ (x / 1) := by
  rw [show x / 1 = x % 4294967296 / 1 + 256 * (16777216 * (x / 4294967296)) by omega, byZ_c]
def appT (T : Int → Int) (L v : Int) : Int → Int := fun j => if j = L then byZ (v / 16777216) else if j = L + 1 then byZ (v / 65536) else if j = L + 1 + 1 then byZ (v / 256) else if j = L + 1 + 1 + 1 then byZ (v / 1) else T j
def apS (σ : Sg) (v : Int) : Sg := (setG σ.1 3 (cn σ 3 + 4), σ.2.1, σ.2.2.1, σ.2.2.2.1, appT (sT σ) (cn σ 3) v)
theorem wfS_ap {σ : Sg} (w : wfS σ) (v : Int) (h : cn σ 3 ≤ 596) : wfS (apS σ v) := by
  have n := wS_n w
  refine ⟨⟨n.1, n.2.1, n.2.2.1, ⟨?_, ?_⟩, n.2.2.2.2⟩, fun i a c => ?_, w.2.2⟩
  · show 0 ≤ cn σ 3 + 4; omega
  · show cn σ 3 + 4 ≤ 600; omega
  · show -128 ≤ appT (sT σ) (cn σ 3) v i ∧ appT (sT σ) (cn σ 3) v i < 128
    unfold appT
    repeat' split
    all_goals first | exact byZ_b _ | exact wS_t w a c
theorem cn_ap3 (σ : Sg) (v : Int) : cn (apS σ v) 3 = cn σ 3 + 4 := rfl
theorem cn_ap {σ : Sg} {v s : Int} : cn (apS σ v) s = if s = 3 then cn σ 3 + 4 else cn σ s := rfl
set_option maxHeartbeats 3000000 in
theorem zp_X8_append {ad : mA} {dd : Nat} {h : mH} {Q : mQ} {t : Nat} {σ : Sg} (hk : tdk h t) (HT : clsT h t σ)  (v : Int) (v_r : -2147483648 ≤ v ∧ v < 2147483648) (p1 : cn σ 3 ≤ 596) (kq : ∀ h1, frm (fun a k => (a = t ∧ k = 5) ∨ a = t + 1) h h1 → (clsT h1 t (apS σ v)) → Q none h1) : mCal TB0 ad (dd + 1) M_X8_append [.ref t, .int (zI v)] h 0 0 Q := by
  refine ⟨Nat.le_of_ble_eq_true rfl, ?_⟩
  show mEv TB0 ad M_X8_append (dd + 1) (0, 0) (mCal TB0 ad (dd + 0)) (fun v h' z => z.1 = 0 ∧ Q v h') 0 [some (.ref t), some (.int (zI v)), none] [] h (0, 0)
  have FR0 : frm (fun a k => (a = t ∧ k = 5) ∨ a = t + 1) h h := frm_0 h
  have w1 := wS_n (clsT_w HT)
  have L0 := clsT_3 HT
  refine z_bipush (24) dX8_append_0 rfl ?_
  refine e_istore_n (L' := [_, _, _]) dX8_append_2 (Nat.le_of_ble_eq_true rfl) rfl ?_
  refine e_iload_n dX8_append_3 rfl ?_
  refine z_if_lt 46 dX8_append_4 rfl ⟨by omega, by omega⟩ (fun c1 => ?_) (fun c1 => ?_)
  · exfalso; omega
  · skip
    refine e_aload_n dX8_append_7 rfl ?_
    refine z_get (cn σ 3) dX8_append_8 tf_8_37 (congrArg Prod.fst (td_s0 hk)) (Or.inl rfl) L0 ?_
    refine z_sipush (600) dX8_append_11 rfl ?_
    refine z_icmp_ge 46 dX8_append_14 rfl ⟨by omega, by omega⟩ ⟨by omega, by omega⟩ (fun c2 => ?_) (fun c2 => ?_)
    · exfalso; omega
    · skip
      refine e_aload_n dX8_append_17 rfl ?_
      refine e_get (.ref (t + 1)) dX8_append_18 tf_8_9 (congrArg Prod.fst (td_s0 hk)) (congrArg va_rf (td_r0_0 hk)) ?_
      refine e_aload_n dX8_append_21 rfl ?_
      refine z_get (cn σ 3) dX8_append_22 tf_8_37 (congrArg Prod.fst (td_s0 hk)) (Or.inl rfl) L0 ?_
      refine e_iload_n dX8_append_25 rfl ?_
      refine e_iload_n dX8_append_26 rfl ?_
      refine z_iushrK 24 16777216 dX8_append_27 (by decide) (by decide) ?_
      refine z_i2b dX8_append_28 ?_
      refine z_bst dX8_append_29 (td_s1 hk) (by decide) (by omega) (by omega) (fun h3 e4 => ?_)
      have f5 := frm_1 e4
      have k6 := lk_q (frm_s f5) hk
      have FR7 := frm_t FR0 (frm_m (S' := (fun a k => (a = t ∧ k = 5) ∨ a = t + 1)) f5 (fun a k q => by omega))
      refine e_aload_n dX8_append_30 rfl ?_
      refine e_dup dX8_append_31 rfl ?_
      refine z_get (cn σ 3) dX8_append_32 tf_8_37 (congrArg Prod.fst (td_s0 k6)) (Or.inl rfl) ((frm_r f5 (by omega)).trans L0) ?_
      refine z_iconst (1) dX8_append_35 rfl ?_
      refine z_iadd dX8_append_36 ?_
      refine z_put dX8_append_37 tf_8_37 (congrArg Prod.fst (td_s0 k6)) rfl (Or.inl rfl) (fun h8 e9 => ?_)
      have f10 := frm_1 e9
      have k11 := lk_q (frm_s f10) k6
      have FR12 := frm_t FR7 (frm_m (S' := (fun a k => (a = t ∧ k = 5) ∨ a = t + 1)) f10 (fun a k q => by omega))
      refine z_iinc (L' := [_, _, _]) dX8_append_40 rfl rfl ?_
      refine e_goto 3 dX8_append_43 rfl ?_
      refine e_iload_n dX8_append_3 rfl ?_
      refine z_if_lt 46 dX8_append_4 rfl ⟨by omega, by omega⟩ (fun c13 => ?_) (fun c13 => ?_)
      · exfalso; omega
      · skip
        refine e_aload_n dX8_append_7 rfl ?_
        refine z_get ((cn σ 3) + 1) dX8_append_8 tf_8_37 (congrArg Prod.fst (td_s0 k11)) (Or.inl rfl) (rI_eq e9 ⟨by omega, by omega⟩) ?_
        refine z_sipush (600) dX8_append_11 rfl ?_
        refine z_icmp_ge 46 dX8_append_14 rfl ⟨by omega, by omega⟩ ⟨by omega, by omega⟩ (fun c14 => ?_) (fun c14 => ?_)
        · exfalso; omega
        · skip
          refine e_aload_n dX8_append_17 rfl ?_
          refine e_get (.ref (t + 1)) dX8_append_18 tf_8_9 (congrArg Prod.fst (td_s0 k11)) (congrArg va_rf (td_r0_0 k11)) ?_
          refine e_aload_n dX8_append_21 rfl ?_
          refine z_get ((cn σ 3) + 1) dX8_append_22 tf_8_37 (congrArg Prod.fst (td_s0 k11)) (Or.inl rfl) (rI_eq e9 ⟨by omega, by omega⟩) ?_
          refine e_iload_n dX8_append_25 rfl ?_
          refine e_iload_n dX8_append_26 rfl ?_
          refine z_iushrK 16 65536 dX8_append_27 (by decide) (by decide) ?_
          refine z_i2b dX8_append_28 ?_
          refine z_bst dX8_append_29 (td_s1 k11) (by decide) (by omega) (by omega) (fun h15 e16 => ?_)
          have f17 := frm_1 e16
          have k18 := lk_q (frm_s f17) k11
          have FR19 := frm_t FR12 (frm_m (S' := (fun a k => (a = t ∧ k = 5) ∨ a = t + 1)) f17 (fun a k q => by omega))
          refine e_aload_n dX8_append_30 rfl ?_
          refine e_dup dX8_append_31 rfl ?_
          refine z_get ((cn σ 3) + 1) dX8_append_32 tf_8_37 (congrArg Prod.fst (td_s0 k18)) (Or.inl rfl) ((frm_r f17 (by omega)).trans (rI_eq e9 ⟨by omega, by omega⟩)) ?_
          refine z_iconst (1) dX8_append_35 rfl ?_
          refine z_iadd dX8_append_36 ?_
          refine z_put dX8_append_37 tf_8_37 (congrArg Prod.fst (td_s0 k18)) rfl (Or.inl rfl) (fun h20 e21 => ?_)
          have f22 := frm_1 e21
          have k23 := lk_q (frm_s f22) k18
          have FR24 := frm_t FR19 (frm_m (S' := (fun a k => (a = t ∧ k = 5) ∨ a = t + 1)) f22 (fun a k q => by omega))
          refine z_iinc (L' := [_, _, _]) dX8_append_40 rfl rfl ?_
          refine e_goto 3 dX8_append_43 rfl ?_
          refine e_iload_n dX8_append_3 rfl ?_
          refine z_if_lt 46 dX8_append_4 rfl ⟨by omega, by omega⟩ (fun c25 => ?_) (fun c25 => ?_)
          · exfalso; omega
          · skip
            refine e_aload_n dX8_append_7 rfl ?_
            refine z_get (((cn σ 3) + 1) + 1) dX8_append_8 tf_8_37 (congrArg Prod.fst (td_s0 k23)) (Or.inl rfl) (rI_eq e21 ⟨by omega, by omega⟩) ?_
            refine z_sipush (600) dX8_append_11 rfl ?_
            refine z_icmp_ge 46 dX8_append_14 rfl ⟨by omega, by omega⟩ ⟨by omega, by omega⟩ (fun c26 => ?_) (fun c26 => ?_)
            · exfalso; omega
            · skip
              refine e_aload_n dX8_append_17 rfl ?_
              refine e_get (.ref (t + 1)) dX8_append_18 tf_8_9 (congrArg Prod.fst (td_s0 k23)) (congrArg va_rf (td_r0_0 k23)) ?_
              refine e_aload_n dX8_append_21 rfl ?_
              refine z_get (((cn σ 3) + 1) + 1) dX8_append_22 tf_8_37 (congrArg Prod.fst (td_s0 k23)) (Or.inl rfl) (rI_eq e21 ⟨by omega, by omega⟩) ?_
              refine e_iload_n dX8_append_25 rfl ?_
              refine e_iload_n dX8_append_26 rfl ?_
              refine z_iushrK 8 256 dX8_append_27 (by decide) (by decide) ?_
              refine z_i2b dX8_append_28 ?_
              refine z_bst dX8_append_29 (td_s1 k23) (by decide) (by omega) (by omega) (fun h27 e28 => ?_)
              have f29 := frm_1 e28
              have k30 := lk_q (frm_s f29) k23
              have FR31 := frm_t FR24 (frm_m (S' := (fun a k => (a = t ∧ k = 5) ∨ a = t + 1)) f29 (fun a k q => by omega))
              refine e_aload_n dX8_append_30 rfl ?_
              refine e_dup dX8_append_31 rfl ?_
              refine z_get (((cn σ 3) + 1) + 1) dX8_append_32 tf_8_37 (congrArg Prod.fst (td_s0 k30)) (Or.inl rfl) ((frm_r f29 (by omega)).trans (rI_eq e21 ⟨by omega, by omega⟩)) ?_
              refine z_iconst (1) dX8_append_35 rfl ?_
              refine z_iadd dX8_append_36 ?_
              refine z_put dX8_append_37 tf_8_37 (congrArg Prod.fst (td_s0 k30)) rfl (Or.inl rfl) (fun h32 e33 => ?_)
              have f34 := frm_1 e33
              have k35 := lk_q (frm_s f34) k30
              have FR36 := frm_t FR31 (frm_m (S' := (fun a k => (a = t ∧ k = 5) ∨ a = t + 1)) f34 (fun a k q => by omega))
              refine z_iinc (L' := [_, _, _]) dX8_append_40 rfl rfl ?_
              refine e_goto 3 dX8_append_43 rfl ?_
              refine e_iload_n dX8_append_3 rfl ?_
              refine z_if_lt 46 dX8_append_4 rfl ⟨by omega, by omega⟩ (fun c37 => ?_) (fun c37 => ?_)
              · exfalso; omega
              · skip
                refine e_aload_n dX8_append_7 rfl ?_
                refine z_get ((((cn σ 3) + 1) + 1) + 1) dX8_append_8 tf_8_37 (congrArg Prod.fst (td_s0 k35)) (Or.inl rfl) (rI_eq e33 ⟨by omega, by omega⟩) ?_
                refine z_sipush (600) dX8_append_11 rfl ?_
                refine z_icmp_ge 46 dX8_append_14 rfl ⟨by omega, by omega⟩ ⟨by omega, by omega⟩ (fun c38 => ?_) (fun c38 => ?_)
                · exfalso; omega
                · skip
                  refine e_aload_n dX8_append_17 rfl ?_
                  refine e_get (.ref (t + 1)) dX8_append_18 tf_8_9 (congrArg Prod.fst (td_s0 k35)) (congrArg va_rf (td_r0_0 k35)) ?_
                  refine e_aload_n dX8_append_21 rfl ?_
                  refine z_get ((((cn σ 3) + 1) + 1) + 1) dX8_append_22 tf_8_37 (congrArg Prod.fst (td_s0 k35)) (Or.inl rfl) (rI_eq e33 ⟨by omega, by omega⟩) ?_
                  refine e_iload_n dX8_append_25 rfl ?_
                  refine e_iload_n dX8_append_26 rfl ?_
                  refine z_iushrK 0 1 dX8_append_27 (by decide) (by decide) ?_
                  refine z_i2b dX8_append_28 ?_
                  refine z_bst dX8_append_29 (td_s1 k35) (by decide) (by omega) (by omega) (fun h39 e40 => ?_)
                  have f41 := frm_1 e40
                  have k42 := lk_q (frm_s f41) k35
                  have FR43 := frm_t FR36 (frm_m (S' := (fun a k => (a = t ∧ k = 5) ∨ a = t + 1)) f41 (fun a k q => by omega))
                  refine e_aload_n dX8_append_30 rfl ?_
                  refine e_dup dX8_append_31 rfl ?_
                  refine z_get ((((cn σ 3) + 1) + 1) + 1) dX8_append_32 tf_8_37 (congrArg Prod.fst (td_s0 k42)) (Or.inl rfl) ((frm_r f41 (by omega)).trans (rI_eq e33 ⟨by omega, by omega⟩)) ?_
                  refine z_iconst (1) dX8_append_35 rfl ?_
                  refine z_iadd dX8_append_36 ?_
                  refine z_put dX8_append_37 tf_8_37 (congrArg Prod.fst (td_s0 k42)) rfl (Or.inl rfl) (fun h44 e45 => ?_)
                  have f46 := frm_1 e45
                  have k47 := lk_q (frm_s f46) k42
                  have FR48 := frm_t FR43 (frm_m (S' := (fun a k => (a = t ∧ k = 5) ∨ a = t + 1)) f46 (fun a k q => by omega))
                  refine z_iinc (L' := [_, _, _]) dX8_append_40 rfl rfl ?_
                  refine e_goto 3 dX8_append_43 rfl ?_
                  refine e_iload_n dX8_append_3 rfl ?_
                  refine z_if_lt 46 dX8_append_4 rfl ⟨by omega, by omega⟩ (fun c49 => ?_) (fun c49 => ?_)
                  · skip
                    refine e_vret dX8_append_46 rfl ⟨rfl, ?_⟩
                    refine kq _ FR48 ⟨wfS_ap (clsT_w HT) v p1, fun i a c => by
                        show _ = appT (sT σ) (cn σ 3) v i
                        unfold appT
                        by_cases q0 : i = cn σ 3
                        · rw [if_pos q0, q0]
                          have z : rI h44 (t + 1) (cn σ 3) = _ := (((frm_r f46 (by omega)).trans ((frm_r f41 (by omega)).trans ((frm_r f34 (by omega)).trans ((frm_r f29 (by omega)).trans ((frm_r f22 (by omega)).trans ((frm_r f17 (by omega)).trans (frm_r f10 (by omega))))))))).trans (rI_eq e4 (byZ_in _))
                          rw [z, byZ_i, by24]
                        rw [if_neg q0]
                        by_cases q1 : i = cn σ 3 + 1
                        · rw [if_pos q1, q1]
                          have z : rI h44 (t + 1) (cn σ 3 + 1) = _ := (((frm_r f46 (by omega)).trans ((frm_r f41 (by omega)).trans ((frm_r f34 (by omega)).trans ((frm_r f29 (by omega)).trans (frm_r f22 (by omega))))))).trans (rI_eq e16 (byZ_in _))
                          rw [z, byZ_i, by16]
                        rw [if_neg q1]
                        by_cases q2 : i = cn σ 3 + 1 + 1
                        · rw [if_pos q2, q2]
                          have z : rI h44 (t + 1) (cn σ 3 + 1 + 1) = _ := (((frm_r f46 (by omega)).trans ((frm_r f41 (by omega)).trans (frm_r f34 (by omega))))).trans (rI_eq e28 (byZ_in _))
                          rw [z, byZ_i, by8]
                        rw [if_neg q2]
                        by_cases q3 : i = cn σ 3 + 1 + 1 + 1
                        · rw [if_pos q3, q3]
                          have z : rI h44 (t + 1) (cn σ 3 + 1 + 1 + 1) = _ := ((frm_r f46 (by omega))).trans (rI_eq e40 (byZ_in _))
                          rw [z, byZ_i, by0]
                        rw [if_neg q3]
                        exact (((frm_r f46 (by omega)).trans ((frm_r f41 (by omega)).trans ((frm_r f34 (by omega)).trans ((frm_r f29 (by omega)).trans ((frm_r f22 (by omega)).trans ((frm_r f17 (by omega)).trans ((frm_r f10 (by omega)).trans (frm_r f5 (by omega)))))))))).trans (clsT_t HT a c),
                        fun i a c => ?_, ⟨(show rI h44 t 5 = cn σ 3 + 4 from ((show rI h44 t 5 = (((((cn σ 3) + 1) + 1) + 1) + 1) from (rI_eq e45 ⟨by omega, by omega⟩))).trans (by omega)), (show rI h44 t 6 = cn σ 4 from (((frm_r f46 (by omega)).trans ((frm_r f41 (by omega)).trans ((frm_r f34 (by omega)).trans ((frm_r f29 (by omega)).trans ((frm_r f22 (by omega)).trans ((frm_r f17 (by omega)).trans ((frm_r f10 (by omega)).trans (frm_r f5 (by omega)))))))))).trans (clsT_4 HT)), (show rI h44 t 7 = cn σ 5 from (((frm_r f46 (by omega)).trans ((frm_r f41 (by omega)).trans ((frm_r f34 (by omega)).trans ((frm_r f29 (by omega)).trans ((frm_r f22 (by omega)).trans ((frm_r f17 (by omega)).trans ((frm_r f10 (by omega)).trans (frm_r f5 (by omega)))))))))).trans (clsT_5 HT))⟩, fun i a c => isF_q (fun b x y z => by have := fAt_b t i; exact ((frm_r f46 (by omega)).trans ((frm_r f41 (by omega)).trans ((frm_r f34 (by omega)).trans ((frm_r f29 (by omega)).trans ((frm_r f22 (by omega)).trans ((frm_r f17 (by omega)).trans ((frm_r f10 (by omega)).trans (frm_r f5 (by omega)))))))))) (clsT_F HT a c), fun i a c => isY_q (fun b x y z => by have := yAt_b t i; exact ((frm_r f46 (by omega)).trans ((frm_r f41 (by omega)).trans ((frm_r f34 (by omega)).trans ((frm_r f29 (by omega)).trans ((frm_r f22 (by omega)).trans ((frm_r f17 (by omega)).trans ((frm_r f10 (by omega)).trans (frm_r f5 (by omega)))))))))) (clsT_Y HT a c), fun i a c => isK_q (fun b x y z => by have := kAt_b t i; exact ((frm_r f46 (by omega)).trans ((frm_r f41 (by omega)).trans ((frm_r f34 (by omega)).trans ((frm_r f29 (by omega)).trans ((frm_r f22 (by omega)).trans ((frm_r f17 (by omega)).trans ((frm_r f10 (by omega)).trans (frm_r f5 (by omega)))))))))) (clsT_K HT a c)⟩
                    rw [cn_ap, if_neg (by omega)]
                    exact (((frm_r f46 (by omega)).trans ((frm_r f41 (by omega)).trans ((frm_r f34 (by omega)).trans ((frm_r f29 (by omega)).trans ((frm_r f22 (by omega)).trans ((frm_r f17 (by omega)).trans ((frm_r f10 (by omega)).trans (frm_r f5 (by omega)))))))))).trans (clsT_cn HT a c)
                  · exfalso; omega
set_option maxHeartbeats 3000000 in
theorem zp_X12_four {ad : mA} {dd : Nat} {h : mH} {Q : mQ} {m : Nat} {σ : Sg} (hk : rk h m) (HR : refT h m 0 σ)  (v : Int) (v_r : -2147483648 ≤ v ∧ v < 2147483648) (p1 : cn σ 3 ≤ 596) (kq : ∀ h1, frm (fun a k => (a = m + 2 ∧ k = 0) ∨ (a = m + 1 ∧ k < 600)) h h1 → (refT h1 m 0 (apS σ v)) → Q none h1) : mCal TB0 ad (dd + 1) M_X12_four [.ref m, .int (zI v)] h 0 0 Q := by
  refine ⟨Nat.le_of_ble_eq_true rfl, ?_⟩
  show mEv TB0 ad M_X12_four (dd + 1) (0, 0) (mCal TB0 ad (dd + 0)) (fun v h' z => z.1 = 0 ∧ Q v h') 0 [some (.ref m), some (.int (zI v)), none] [] h (0, 0)
  have FR0 : frm (fun a k => (a = m + 2 ∧ k = 0) ∨ (a = m + 1 ∧ k < 600)) h h := frm_0 h
  have w1 := wS_n (refT_w HR)
  have L0 := refT_3 HR
  refine z_bipush (24) dX12_four_0 rfl ?_
  refine e_istore_n (L' := [_, _, _]) dX12_four_2 (Nat.le_of_ble_eq_true rfl) rfl ?_
  refine e_iload_n dX12_four_3 rfl ?_
  refine z_if_lt 38 dX12_four_4 rfl ⟨by omega, by omega⟩ (fun c1 => ?_) (fun c1 => ?_)
  · exfalso; omega
  · skip
    refine e_aload_n dX12_four_7 rfl ?_
    refine e_get (.ref (m + 1)) dX12_four_8 tf_12_7 (rk_s hk) (congrArg va_rf (rk_r1 hk)) ?_
    refine e_aload_n dX12_four_11 rfl ?_
    refine e_get (.ref (m + 2)) dX12_four_12 tf_12_13 (rk_s hk) (congrArg va_rf (rk_r2 hk)) ?_
    refine z_iconst (0) dX12_four_15 rfl ?_
    refine z_ild (cn σ 3) dX12_four_16 (rk_a2 hk) (by decide) (by omega) (by omega) L0 ?_
    refine e_iload_n dX12_four_17 rfl ?_
    refine e_iload_n dX12_four_18 rfl ?_
    refine z_ishrK 24 16777216 dX12_four_19 (by decide) (by decide) ⟨by omega, by omega⟩ ?_
    refine z_i2b dX12_four_20 ?_
    refine z_bst dX12_four_21 (rk_a1 hk) (by decide) (by omega) (by omega) (fun h2 e3 => ?_)
    have f4 := frm_1 e3
    have k5 := rk_q (frm_s f4) hk
    have FR6 := frm_t FR0 (frm_m (S' := (fun a k => (a = m + 2 ∧ k = 0) ∨ (a = m + 1 ∧ k < 600))) f4 (fun a k q => by omega))
    refine e_aload_n dX12_four_22 rfl ?_
    refine e_get (.ref (m + 2)) dX12_four_23 tf_12_13 (rk_s k5) (congrArg va_rf (rk_r2 k5)) ?_
    refine z_iconst (0) dX12_four_26 rfl ?_
    refine e_dup2 dX12_four_27 rfl rfl ?_
    refine z_ild (cn σ 3) dX12_four_28 (rk_a2 k5) (by decide) (by omega) (by omega) ((frm_r f4 (by omega)).trans L0) ?_
    refine z_iconst (1) dX12_four_29 rfl ?_
    refine z_iadd dX12_four_30 ?_
    refine z_ist dX12_four_31 (rk_a2 k5) (by decide) (by omega) (by omega) (fun h7 e8 => ?_)
    have f9 := frm_1 e8
    have k10 := rk_q (frm_s f9) k5
    have FR11 := frm_t FR6 (frm_m (S' := (fun a k => (a = m + 2 ∧ k = 0) ∨ (a = m + 1 ∧ k < 600))) f9 (fun a k q => by omega))
    refine z_iinc (L' := [_, _, _]) dX12_four_32 rfl rfl ?_
    refine e_goto 3 dX12_four_35 rfl ?_
    refine e_iload_n dX12_four_3 rfl ?_
    refine z_if_lt 38 dX12_four_4 rfl ⟨by omega, by omega⟩ (fun c12 => ?_) (fun c12 => ?_)
    · exfalso; omega
    · skip
      refine e_aload_n dX12_four_7 rfl ?_
      refine e_get (.ref (m + 1)) dX12_four_8 tf_12_7 (rk_s k10) (congrArg va_rf (rk_r1 k10)) ?_
      refine e_aload_n dX12_four_11 rfl ?_
      refine e_get (.ref (m + 2)) dX12_four_12 tf_12_13 (rk_s k10) (congrArg va_rf (rk_r2 k10)) ?_
      refine z_iconst (0) dX12_four_15 rfl ?_
      refine z_ild ((cn σ 3) + 1) dX12_four_16 (rk_a2 k10) (by decide) (by omega) (by omega) (rI_eq e8 ⟨by omega, by omega⟩) ?_
      refine e_iload_n dX12_four_17 rfl ?_
      refine e_iload_n dX12_four_18 rfl ?_
      refine z_ishrK 16 65536 dX12_four_19 (by decide) (by decide) ⟨by omega, by omega⟩ ?_
      refine z_i2b dX12_four_20 ?_
      refine z_bst dX12_four_21 (rk_a1 k10) (by decide) (by omega) (by omega) (fun h13 e14 => ?_)
      have f15 := frm_1 e14
      have k16 := rk_q (frm_s f15) k10
      have FR17 := frm_t FR11 (frm_m (S' := (fun a k => (a = m + 2 ∧ k = 0) ∨ (a = m + 1 ∧ k < 600))) f15 (fun a k q => by omega))
      refine e_aload_n dX12_four_22 rfl ?_
      refine e_get (.ref (m + 2)) dX12_four_23 tf_12_13 (rk_s k16) (congrArg va_rf (rk_r2 k16)) ?_
      refine z_iconst (0) dX12_four_26 rfl ?_
      refine e_dup2 dX12_four_27 rfl rfl ?_
      refine z_ild ((cn σ 3) + 1) dX12_four_28 (rk_a2 k16) (by decide) (by omega) (by omega) ((frm_r f15 (by omega)).trans (rI_eq e8 ⟨by omega, by omega⟩)) ?_
      refine z_iconst (1) dX12_four_29 rfl ?_
      refine z_iadd dX12_four_30 ?_
      refine z_ist dX12_four_31 (rk_a2 k16) (by decide) (by omega) (by omega) (fun h18 e19 => ?_)
      have f20 := frm_1 e19
      have k21 := rk_q (frm_s f20) k16
      have FR22 := frm_t FR17 (frm_m (S' := (fun a k => (a = m + 2 ∧ k = 0) ∨ (a = m + 1 ∧ k < 600))) f20 (fun a k q => by omega))
      refine z_iinc (L' := [_, _, _]) dX12_four_32 rfl rfl ?_
      refine e_goto 3 dX12_four_35 rfl ?_
      refine e_iload_n dX12_four_3 rfl ?_
      refine z_if_lt 38 dX12_four_4 rfl ⟨by omega, by omega⟩ (fun c23 => ?_) (fun c23 => ?_)
      · exfalso; omega
      · skip
        refine e_aload_n dX12_four_7 rfl ?_
        refine e_get (.ref (m + 1)) dX12_four_8 tf_12_7 (rk_s k21) (congrArg va_rf (rk_r1 k21)) ?_
        refine e_aload_n dX12_four_11 rfl ?_
        refine e_get (.ref (m + 2)) dX12_four_12 tf_12_13 (rk_s k21) (congrArg va_rf (rk_r2 k21)) ?_
        refine z_iconst (0) dX12_four_15 rfl ?_
        refine z_ild (((cn σ 3) + 1) + 1) dX12_four_16 (rk_a2 k21) (by decide) (by omega) (by omega) (rI_eq e19 ⟨by omega, by omega⟩) ?_
        refine e_iload_n dX12_four_17 rfl ?_
        refine e_iload_n dX12_four_18 rfl ?_
        refine z_ishrK 8 256 dX12_four_19 (by decide) (by decide) ⟨by omega, by omega⟩ ?_
        refine z_i2b dX12_four_20 ?_
        refine z_bst dX12_four_21 (rk_a1 k21) (by decide) (by omega) (by omega) (fun h24 e25 => ?_)
        have f26 := frm_1 e25
        have k27 := rk_q (frm_s f26) k21
        have FR28 := frm_t FR22 (frm_m (S' := (fun a k => (a = m + 2 ∧ k = 0) ∨ (a = m + 1 ∧ k < 600))) f26 (fun a k q => by omega))
        refine e_aload_n dX12_four_22 rfl ?_
        refine e_get (.ref (m + 2)) dX12_four_23 tf_12_13 (rk_s k27) (congrArg va_rf (rk_r2 k27)) ?_
        refine z_iconst (0) dX12_four_26 rfl ?_
        refine e_dup2 dX12_four_27 rfl rfl ?_
        refine z_ild (((cn σ 3) + 1) + 1) dX12_four_28 (rk_a2 k27) (by decide) (by omega) (by omega) ((frm_r f26 (by omega)).trans (rI_eq e19 ⟨by omega, by omega⟩)) ?_
        refine z_iconst (1) dX12_four_29 rfl ?_
        refine z_iadd dX12_four_30 ?_
        refine z_ist dX12_four_31 (rk_a2 k27) (by decide) (by omega) (by omega) (fun h29 e30 => ?_)
        have f31 := frm_1 e30
        have k32 := rk_q (frm_s f31) k27
        have FR33 := frm_t FR28 (frm_m (S' := (fun a k => (a = m + 2 ∧ k = 0) ∨ (a = m + 1 ∧ k < 600))) f31 (fun a k q => by omega))
        refine z_iinc (L' := [_, _, _]) dX12_four_32 rfl rfl ?_
        refine e_goto 3 dX12_four_35 rfl ?_
        refine e_iload_n dX12_four_3 rfl ?_
        refine z_if_lt 38 dX12_four_4 rfl ⟨by omega, by omega⟩ (fun c34 => ?_) (fun c34 => ?_)
        · exfalso; omega
        · skip
          refine e_aload_n dX12_four_7 rfl ?_
          refine e_get (.ref (m + 1)) dX12_four_8 tf_12_7 (rk_s k32) (congrArg va_rf (rk_r1 k32)) ?_
          refine e_aload_n dX12_four_11 rfl ?_
          refine e_get (.ref (m + 2)) dX12_four_12 tf_12_13 (rk_s k32) (congrArg va_rf (rk_r2 k32)) ?_
          refine z_iconst (0) dX12_four_15 rfl ?_
          refine z_ild ((((cn σ 3) + 1) + 1) + 1) dX12_four_16 (rk_a2 k32) (by decide) (by omega) (by omega) (rI_eq e30 ⟨by omega, by omega⟩) ?_
          refine e_iload_n dX12_four_17 rfl ?_
          refine e_iload_n dX12_four_18 rfl ?_
          refine z_ishrK 0 1 dX12_four_19 (by decide) (by decide) ⟨by omega, by omega⟩ ?_
          refine z_i2b dX12_four_20 ?_
          refine z_bst dX12_four_21 (rk_a1 k32) (by decide) (by omega) (by omega) (fun h35 e36 => ?_)
          have f37 := frm_1 e36
          have k38 := rk_q (frm_s f37) k32
          have FR39 := frm_t FR33 (frm_m (S' := (fun a k => (a = m + 2 ∧ k = 0) ∨ (a = m + 1 ∧ k < 600))) f37 (fun a k q => by omega))
          refine e_aload_n dX12_four_22 rfl ?_
          refine e_get (.ref (m + 2)) dX12_four_23 tf_12_13 (rk_s k38) (congrArg va_rf (rk_r2 k38)) ?_
          refine z_iconst (0) dX12_four_26 rfl ?_
          refine e_dup2 dX12_four_27 rfl rfl ?_
          refine z_ild ((((cn σ 3) + 1) + 1) + 1) dX12_four_28 (rk_a2 k38) (by decide) (by omega) (by omega) ((frm_r f37 (by omega)).trans (rI_eq e30 ⟨by omega, by omega⟩)) ?_
          refine z_iconst (1) dX12_four_29 rfl ?_
          refine z_iadd dX12_four_30 ?_
          refine z_ist dX12_four_31 (rk_a2 k38) (by decide) (by omega) (by omega) (fun h40 e41 => ?_)
          have f42 := frm_1 e41
          have k43 := rk_q (frm_s f42) k38
          have FR44 := frm_t FR39 (frm_m (S' := (fun a k => (a = m + 2 ∧ k = 0) ∨ (a = m + 1 ∧ k < 600))) f42 (fun a k q => by omega))
          refine z_iinc (L' := [_, _, _]) dX12_four_32 rfl rfl ?_
          refine e_goto 3 dX12_four_35 rfl ?_
          refine e_iload_n dX12_four_3 rfl ?_
          refine z_if_lt 38 dX12_four_4 rfl ⟨by omega, by omega⟩ (fun c45 => ?_) (fun c45 => ?_)
          · skip
            refine e_vret dX12_four_38 rfl ⟨rfl, ?_⟩
            refine kq _ FR44 ⟨wfS_ap (refT_w HR) v p1, fun i a c => by
                rw [show 600 * 0 + i = i by omega]
                show _ = appT (sT σ) (cn σ 3) v i
                unfold appT
                by_cases q0 : i = cn σ 3
                · rw [if_pos q0, q0]
                  have z : rI h40 (m + 1) (cn σ 3) = _ := (((frm_r f42 (by omega)).trans ((frm_r f37 (by omega)).trans ((frm_r f31 (by omega)).trans ((frm_r f26 (by omega)).trans ((frm_r f20 (by omega)).trans ((frm_r f15 (by omega)).trans (frm_r f9 (by omega))))))))).trans (rI_eq e3 (byZ_in _))
                  rw [z, byZ_i]
                rw [if_neg q0]
                by_cases q1 : i = cn σ 3 + 1
                · rw [if_pos q1, q1]
                  have z : rI h40 (m + 1) (cn σ 3 + 1) = _ := (((frm_r f42 (by omega)).trans ((frm_r f37 (by omega)).trans ((frm_r f31 (by omega)).trans ((frm_r f26 (by omega)).trans (frm_r f20 (by omega))))))).trans (rI_eq e14 (byZ_in _))
                  rw [z, byZ_i]
                rw [if_neg q1]
                by_cases q2 : i = cn σ 3 + 1 + 1
                · rw [if_pos q2, q2]
                  have z : rI h40 (m + 1) (cn σ 3 + 1 + 1) = _ := (((frm_r f42 (by omega)).trans ((frm_r f37 (by omega)).trans (frm_r f31 (by omega))))).trans (rI_eq e25 (byZ_in _))
                  rw [z, byZ_i]
                rw [if_neg q2]
                by_cases q3 : i = cn σ 3 + 1 + 1 + 1
                · rw [if_pos q3, q3]
                  have z : rI h40 (m + 1) (cn σ 3 + 1 + 1 + 1) = _ := ((frm_r f42 (by omega))).trans (rI_eq e36 (byZ_in _))
                  rw [z, byZ_i]
                rw [if_neg q3]
                exact (((frm_r f42 (by omega)).trans ((frm_r f37 (by omega)).trans ((frm_r f31 (by omega)).trans ((frm_r f26 (by omega)).trans ((frm_r f20 (by omega)).trans ((frm_r f15 (by omega)).trans ((frm_r f9 (by omega)).trans (frm_r f4 (by omega)))))))))).trans (refT_t HR a c),
                fun i a c => ?_, ⟨(show rI h40 (m + 2) 0 = cn σ 3 + 4 from ((show rI h40 (m + 2) 0 = (((((cn σ 3) + 1) + 1) + 1) + 1) from (rI_eq e41 ⟨by omega, by omega⟩))).trans (by omega)), (show rI h40 (m + 3) 0 = cn σ 4 from (((frm_r f42 (by omega)).trans ((frm_r f37 (by omega)).trans ((frm_r f31 (by omega)).trans ((frm_r f26 (by omega)).trans ((frm_r f20 (by omega)).trans ((frm_r f15 (by omega)).trans ((frm_r f9 (by omega)).trans (frm_r f4 (by omega)))))))))).trans (refT_4 HR)), (show rI h40 (m + 4) 0 = cn σ 5 from (((frm_r f42 (by omega)).trans ((frm_r f37 (by omega)).trans ((frm_r f31 (by omega)).trans ((frm_r f26 (by omega)).trans ((frm_r f20 (by omega)).trans ((frm_r f15 (by omega)).trans ((frm_r f9 (by omega)).trans (frm_r f4 (by omega)))))))))).trans (refT_5 HR))⟩, fun i p q j r u => (((frm_r f42 (by omega)).trans ((frm_r f37 (by omega)).trans ((frm_r f31 (by omega)).trans ((frm_r f26 (by omega)).trans ((frm_r f20 (by omega)).trans ((frm_r f15 (by omega)).trans ((frm_r f9 (by omega)).trans (frm_r f4 (by omega)))))))))).trans (HR.2.2.2.2.1 i p q j r u), fun i p q j r u => (((frm_r f42 (by omega)).trans ((frm_r f37 (by omega)).trans ((frm_r f31 (by omega)).trans ((frm_r f26 (by omega)).trans ((frm_r f20 (by omega)).trans ((frm_r f15 (by omega)).trans ((frm_r f9 (by omega)).trans (frm_r f4 (by omega)))))))))).trans (HR.2.2.2.2.2.1 i p q j r u), fun i p q j r u => (((frm_r f42 (by omega)).trans ((frm_r f37 (by omega)).trans ((frm_r f31 (by omega)).trans ((frm_r f26 (by omega)).trans ((frm_r f20 (by omega)).trans ((frm_r f15 (by omega)).trans ((frm_r f9 (by omega)).trans (frm_r f4 (by omega)))))))))).trans (HR.2.2.2.2.2.2 i p q j r u)⟩
            rw [cn_ap, if_neg (by omega)]
            exact (((frm_r f42 (by omega)).trans ((frm_r f37 (by omega)).trans ((frm_r f31 (by omega)).trans ((frm_r f26 (by omega)).trans ((frm_r f20 (by omega)).trans ((frm_r f15 (by omega)).trans ((frm_r f9 (by omega)).trans (frm_r f4 (by omega)))))))))).trans (HR.2.2.1 i a c)
          · exfalso; omega
set_option maxHeartbeats 400000 in
theorem zp_X11_feed_in {ad : mA} {dd : Nat} {h : mH} {Q : mQ} {x : Nat} {σ : Sg} (hk : bk h x) (HX : clsT h (x + 1) σ)  (v1 : Int) (v1_r : -2147483648 ≤ v1 ∧ v1 < 2147483648) (v2 : Int) (v2_r : -2147483648 ≤ v2 ∧ v2 < 2147483648) (v3 : Int) (v3_r : -2147483648 ≤ v3 ∧ v3 < 2147483648) (v4 : Int) (v4_r : -2147483648 ≤ v4 ∧ v4 < 2147483648) (v5 : Int) (v5_r : -2147483648 ≤ v5 ∧ v5 < 2147483648) (p1 : cn σ 3 + 20 ≤ 600) (kq : ∀ h1, frm (fun a k => x + 1 ≤ a ∧ a ≤ x + 2) h h1 → (clsT h1 (x + 1) (apS (apS (apS (apS (apS σ v1) v2) v3) v4) v5)) → Q (some (.int (zI (cn σ 3 + 20)))) h1) : mCal TB0 ad (dd + 2) M_X11_feed [.ref x, .int (zI v1), .int (zI v2), .int (zI v3), .int (zI v4), .int (zI v5)] h 0 0 Q := by
  refine ⟨Nat.le_of_ble_eq_true rfl, ?_⟩
  show mEv TB0 ad M_X11_feed (dd + 2) (0, 0) (mCal TB0 ad (dd + 1)) (fun v h' z => z.1 = 0 ∧ Q v h') 0 [some (.ref x), some (.int (zI v1)), some (.int (zI v2)), some (.int (zI v3)), some (.int (zI v4)), some (.int (zI v5))] [] h (0, 0)
  have FR0 : frm (fun a k => x + 1 ≤ a ∧ a ≤ x + 2) h h := frm_0 h
  have w1 := wS_n (clsT_w HX)
  refine e_aload_n dX11_feed_0 rfl ?_
  refine e_get (.ref (x + 1)) dX11_feed_1 tf_11_10 (congrArg Prod.fst (bk_s0 hk)) (congrArg va_rf (bk_r0_0 hk)) ?_
  refine z_get (cn σ 3) dX11_feed_4 tf_11_62 (congrArg Prod.fst (bk_s1 hk)) (Or.inl rfl) (clsT_3 HX) ?_
  have y1 := wS_n (clsT_w HX)
  refine z_bipush (20) dX11_feed_7 rfl ?_
  refine z_iadd dX11_feed_9 ?_
  refine z_sipush (600) dX11_feed_10 rfl ?_
  refine z_icmp_le 18 dX11_feed_13 rfl ⟨by omega, by omega⟩ ⟨by omega, by omega⟩ (fun c2 => ?_) (fun c2 => ?_)
  · skip
    refine e_aload_n dX11_feed_18 rfl ?_
    refine e_get (.ref (x + 1)) dX11_feed_19 tf_11_10 (congrArg Prod.fst (bk_s0 hk)) (congrArg va_rf (bk_r0_0 hk)) ?_
    refine e_iload_n dX11_feed_22 rfl ?_
    refine e_callV [.int _] dX11_feed_23 tm_11_66 rfl (Nat.le_of_ble_eq_true rfl) (congrArg Prod.fst (bk_s1 hk)) (Nat.le_of_ble_eq_true rfl) (Nat.le_refl _) (Nat.le_refl _) rfl (zp_X8_append (bk_td1 hk) HX v1 ⟨by omega, by omega⟩ (by omega) (fun  h3 f4 p5 => ?_))
    have k6 := bk_q (frm_s f4) hk
    have FR7 := frm_t FR0 (frm_m (S' := (fun a k => x + 1 ≤ a ∧ a ≤ x + 2)) f4 (fun a k q => by omega))
    have y8 := cn_ap3 σ v1
    refine e_aload_n dX11_feed_26 rfl ?_
    refine e_get (.ref (x + 1)) dX11_feed_27 tf_11_10 (congrArg Prod.fst (bk_s0 k6)) (congrArg va_rf (bk_r0_0 k6)) ?_
    refine e_iload_n dX11_feed_30 rfl ?_
    refine e_callV [.int _] dX11_feed_31 tm_11_66 rfl (Nat.le_of_ble_eq_true rfl) (congrArg Prod.fst (bk_s1 k6)) (Nat.le_of_ble_eq_true rfl) (Nat.le_refl _) (Nat.le_refl _) rfl (zp_X8_append (bk_td1 k6) p5 v2 ⟨by omega, by omega⟩ (by omega) (fun  h9 f10 p11 => ?_))
    have k12 := bk_q (frm_s f10) k6
    have FR13 := frm_t FR7 (frm_m (S' := (fun a k => x + 1 ≤ a ∧ a ≤ x + 2)) f10 (fun a k q => by omega))
    have y14 := cn_ap3 (apS σ v1) v2
    refine e_aload_n dX11_feed_34 rfl ?_
    refine e_get (.ref (x + 1)) dX11_feed_35 tf_11_10 (congrArg Prod.fst (bk_s0 k12)) (congrArg va_rf (bk_r0_0 k12)) ?_
    refine e_iload_n dX11_feed_38 rfl ?_
    refine e_callV [.int _] dX11_feed_39 tm_11_66 rfl (Nat.le_of_ble_eq_true rfl) (congrArg Prod.fst (bk_s1 k12)) (Nat.le_of_ble_eq_true rfl) (Nat.le_refl _) (Nat.le_refl _) rfl (zp_X8_append (bk_td1 k12) p11 v3 ⟨by omega, by omega⟩ (by omega) (fun  h15 f16 p17 => ?_))
    have k18 := bk_q (frm_s f16) k12
    have FR19 := frm_t FR13 (frm_m (S' := (fun a k => x + 1 ≤ a ∧ a ≤ x + 2)) f16 (fun a k q => by omega))
    have y20 := cn_ap3 (apS (apS σ v1) v2) v3
    refine e_aload_n dX11_feed_42 rfl ?_
    refine e_get (.ref (x + 1)) dX11_feed_43 tf_11_10 (congrArg Prod.fst (bk_s0 k18)) (congrArg va_rf (bk_r0_0 k18)) ?_
    refine e_iload dX11_feed_46 rfl ?_
    refine e_callV [.int _] dX11_feed_48 tm_11_66 rfl (Nat.le_of_ble_eq_true rfl) (congrArg Prod.fst (bk_s1 k18)) (Nat.le_of_ble_eq_true rfl) (Nat.le_refl _) (Nat.le_refl _) rfl (zp_X8_append (bk_td1 k18) p17 v4 ⟨by omega, by omega⟩ (by omega) (fun  h21 f22 p23 => ?_))
    have k24 := bk_q (frm_s f22) k18
    have FR25 := frm_t FR19 (frm_m (S' := (fun a k => x + 1 ≤ a ∧ a ≤ x + 2)) f22 (fun a k q => by omega))
    have y26 := cn_ap3 (apS (apS (apS σ v1) v2) v3) v4
    refine e_aload_n dX11_feed_51 rfl ?_
    refine e_get (.ref (x + 1)) dX11_feed_52 tf_11_10 (congrArg Prod.fst (bk_s0 k24)) (congrArg va_rf (bk_r0_0 k24)) ?_
    refine e_iload dX11_feed_55 rfl ?_
    refine e_callV [.int _] dX11_feed_57 tm_11_66 rfl (Nat.le_of_ble_eq_true rfl) (congrArg Prod.fst (bk_s1 k24)) (Nat.le_of_ble_eq_true rfl) (Nat.le_refl _) (Nat.le_refl _) rfl (zp_X8_append (bk_td1 k24) p23 v5 ⟨by omega, by omega⟩ (by omega) (fun  h27 f28 p29 => ?_))
    have k30 := bk_q (frm_s f28) k24
    have FR31 := frm_t FR25 (frm_m (S' := (fun a k => x + 1 ≤ a ∧ a ≤ x + 2)) f28 (fun a k q => by omega))
    have y32 := cn_ap3 (apS (apS (apS (apS σ v1) v2) v3) v4) v5
    refine e_aload_n dX11_feed_60 rfl ?_
    refine e_get (.ref (x + 1)) dX11_feed_61 tf_11_10 (congrArg Prod.fst (bk_s0 k30)) (congrArg va_rf (bk_r0_0 k30)) ?_
    refine z_get (cn (apS (apS (apS (apS (apS σ v1) v2) v3) v4) v5) 3) dX11_feed_64 tf_11_62 (congrArg Prod.fst (bk_s1 k30)) (Or.inl rfl) (clsT_3 p29) ?_
    have y33 := wS_n (clsT_w p29)
    refine z_iret dX11_feed_67 rfl ⟨rfl, ?_⟩
    exact z_q (kq _ FR31 p29) (by omega)
  · exfalso; omega
set_option maxHeartbeats 400000 in
theorem zp_X11_feed_out {ad : mA} {dd : Nat} {h : mH} {Q : mQ} {x : Nat} {σ : Sg} (hk : bk h x) (HX : clsT h (x + 1) σ)  (v1 : Int) (v1_r : -2147483648 ≤ v1 ∧ v1 < 2147483648) (v2 : Int) (v2_r : -2147483648 ≤ v2 ∧ v2 < 2147483648) (v3 : Int) (v3_r : -2147483648 ≤ v3 ∧ v3 < 2147483648) (v4 : Int) (v4_r : -2147483648 ≤ v4 ∧ v4 < 2147483648) (v5 : Int) (v5_r : -2147483648 ≤ v5 ∧ v5 < 2147483648) (p1 : ¬ cn σ 3 + 20 ≤ 600) (kq : Q (some (.int (zI (-1)))) h) : mCal TB0 ad (dd + 2) M_X11_feed [.ref x, .int (zI v1), .int (zI v2), .int (zI v3), .int (zI v4), .int (zI v5)] h 0 0 Q := by
  refine ⟨Nat.le_of_ble_eq_true rfl, ?_⟩
  show mEv TB0 ad M_X11_feed (dd + 2) (0, 0) (mCal TB0 ad (dd + 1)) (fun v h' z => z.1 = 0 ∧ Q v h') 0 [some (.ref x), some (.int (zI v1)), some (.int (zI v2)), some (.int (zI v3)), some (.int (zI v4)), some (.int (zI v5))] [] h (0, 0)
  have w1 := wS_n (clsT_w HX)
  refine e_aload_n dX11_feed_0 rfl ?_
  refine e_get (.ref (x + 1)) dX11_feed_1 tf_11_10 (congrArg Prod.fst (bk_s0 hk)) (congrArg va_rf (bk_r0_0 hk)) ?_
  refine z_get (cn σ 3) dX11_feed_4 tf_11_62 (congrArg Prod.fst (bk_s1 hk)) (Or.inl rfl) (clsT_3 HX) ?_
  have y1 := wS_n (clsT_w HX)
  refine z_bipush (20) dX11_feed_7 rfl ?_
  refine z_iadd dX11_feed_9 ?_
  refine z_sipush (600) dX11_feed_10 rfl ?_
  refine z_icmp_le 18 dX11_feed_13 rfl ⟨by omega, by omega⟩ ⟨by omega, by omega⟩ (fun c2 => ?_) (fun c2 => ?_)
  · exfalso; omega
  · skip
    refine z_iconst (-1) dX11_feed_16 rfl ?_
    refine z_iret dX11_feed_17 rfl ⟨rfl, ?_⟩
    refine z_q kq ?_
    rfl
set_option maxHeartbeats 400000 in
theorem zp_X12_feed_in {ad : mA} {dd : Nat} {h : mH} {Q : mQ} {m : Nat} {σ : Sg} (hk : rk h m) (HR : refT h m 0 σ)  (v1 : Int) (v1_r : -2147483648 ≤ v1 ∧ v1 < 2147483648) (v2 : Int) (v2_r : -2147483648 ≤ v2 ∧ v2 < 2147483648) (v3 : Int) (v3_r : -2147483648 ≤ v3 ∧ v3 < 2147483648) (v4 : Int) (v4_r : -2147483648 ≤ v4 ∧ v4 < 2147483648) (v5 : Int) (v5_r : -2147483648 ≤ v5 ∧ v5 < 2147483648) (p1 : cn σ 3 + 20 ≤ 600) (kq : ∀ h1, frm (fun a k => (a = m ∧ k = 0) ∨ (a = m + 2 ∧ k = 0) ∨ (a = m + 1 ∧ k < 600)) h h1 → (refT h1 m 0 (apS (apS (apS (apS (apS σ v1) v2) v3) v4) v5)) → Q (some (.int (zI (cn σ 3 + 20)))) h1) : mCal TB0 ad (dd + 2) M_X12_feed [.ref m, .int (zI v1), .int (zI v2), .int (zI v3), .int (zI v4), .int (zI v5)] h 0 0 Q := by
  refine ⟨Nat.le_of_ble_eq_true rfl, ?_⟩
  show mEv TB0 ad M_X12_feed (dd + 2) (0, 0) (mCal TB0 ad (dd + 1)) (fun v h' z => z.1 = 0 ∧ Q v h') 0 [some (.ref m), some (.int (zI v1)), some (.int (zI v2)), some (.int (zI v3)), some (.int (zI v4)), some (.int (zI v5))] [] h (0, 0)
  have FR0 : frm (fun a k => (a = m ∧ k = 0) ∨ (a = m + 2 ∧ k = 0) ∨ (a = m + 1 ∧ k < 600)) h h := frm_0 h
  have w1 := wS_n (refT_w HR)
  refine e_aload_n dX12_feed_0 rfl ?_
  refine z_iconst (0) dX12_feed_1 rfl ?_
  refine z_put dX12_feed_2 tf_12_103 (rk_s hk) rfl (Or.inl rfl) (fun h1 e2 => ?_)
  have f3 := frm_1 e2
  have k4 := rk_q (frm_s f3) hk
  have H5 := refT_c f3 (fun a k q1 q2 => by omega) HR
  have FR6 := frm_t FR0 (frm_m (S' := (fun a k => (a = m ∧ k = 0) ∨ (a = m + 2 ∧ k = 0) ∨ (a = m + 1 ∧ k < 600))) f3 (fun a k q => by omega))
  refine e_aload_n dX12_feed_5 rfl ?_
  refine e_get (.ref (m + 2)) dX12_feed_6 tf_12_13 (rk_s k4) (congrArg va_rf (rk_r2 k4)) ?_
  refine z_iconst (0) dX12_feed_9 rfl ?_
  refine z_ild (cn σ 3) dX12_feed_10 (rk_a2 k4) (by decide) (by omega) (by omega) (refT_3 H5) ?_
  have y7 := wS_n (refT_w H5)
  refine z_bipush (20) dX12_feed_11 rfl ?_
  refine z_iadd dX12_feed_13 ?_
  refine z_sipush (600) dX12_feed_14 rfl ?_
  refine z_icmp_le 22 dX12_feed_17 rfl ⟨by omega, by omega⟩ ⟨by omega, by omega⟩ (fun c8 => ?_) (fun c8 => ?_)
  · skip
    refine e_aload_n dX12_feed_22 rfl ?_
    refine e_iload_n dX12_feed_23 rfl ?_
    refine e_callV [.int _] dX12_feed_24 tm_12_119 rfl (Nat.le_of_ble_eq_true rfl) (rk_s k4) (Nat.le_of_ble_eq_true rfl) (Nat.le_refl _) (Nat.le_refl _) rfl (zp_X12_four k4 H5 v1 ⟨by omega, by omega⟩ (by omega) (fun  h9 f10 p11 => ?_))
    have k12 := rk_q (frm_s f10) k4
    have FR13 := frm_t FR6 (frm_m (S' := (fun a k => (a = m ∧ k = 0) ∨ (a = m + 2 ∧ k = 0) ∨ (a = m + 1 ∧ k < 600))) f10 (fun a k q => by omega))
    have y14 := cn_ap3 σ v1
    refine e_aload_n dX12_feed_27 rfl ?_
    refine e_iload_n dX12_feed_28 rfl ?_
    refine e_callV [.int _] dX12_feed_29 tm_12_119 rfl (Nat.le_of_ble_eq_true rfl) (rk_s k12) (Nat.le_of_ble_eq_true rfl) (Nat.le_refl _) (Nat.le_refl _) rfl (zp_X12_four k12 p11 v2 ⟨by omega, by omega⟩ (by omega) (fun  h15 f16 p17 => ?_))
    have k18 := rk_q (frm_s f16) k12
    have FR19 := frm_t FR13 (frm_m (S' := (fun a k => (a = m ∧ k = 0) ∨ (a = m + 2 ∧ k = 0) ∨ (a = m + 1 ∧ k < 600))) f16 (fun a k q => by omega))
    have y20 := cn_ap3 (apS σ v1) v2
    refine e_aload_n dX12_feed_32 rfl ?_
    refine e_iload_n dX12_feed_33 rfl ?_
    refine e_callV [.int _] dX12_feed_34 tm_12_119 rfl (Nat.le_of_ble_eq_true rfl) (rk_s k18) (Nat.le_of_ble_eq_true rfl) (Nat.le_refl _) (Nat.le_refl _) rfl (zp_X12_four k18 p17 v3 ⟨by omega, by omega⟩ (by omega) (fun  h21 f22 p23 => ?_))
    have k24 := rk_q (frm_s f22) k18
    have FR25 := frm_t FR19 (frm_m (S' := (fun a k => (a = m ∧ k = 0) ∨ (a = m + 2 ∧ k = 0) ∨ (a = m + 1 ∧ k < 600))) f22 (fun a k q => by omega))
    have y26 := cn_ap3 (apS (apS σ v1) v2) v3
    refine e_aload_n dX12_feed_37 rfl ?_
    refine e_iload dX12_feed_38 rfl ?_
    refine e_callV [.int _] dX12_feed_40 tm_12_119 rfl (Nat.le_of_ble_eq_true rfl) (rk_s k24) (Nat.le_of_ble_eq_true rfl) (Nat.le_refl _) (Nat.le_refl _) rfl (zp_X12_four k24 p23 v4 ⟨by omega, by omega⟩ (by omega) (fun  h27 f28 p29 => ?_))
    have k30 := rk_q (frm_s f28) k24
    have FR31 := frm_t FR25 (frm_m (S' := (fun a k => (a = m ∧ k = 0) ∨ (a = m + 2 ∧ k = 0) ∨ (a = m + 1 ∧ k < 600))) f28 (fun a k q => by omega))
    have y32 := cn_ap3 (apS (apS (apS σ v1) v2) v3) v4
    refine e_aload_n dX12_feed_43 rfl ?_
    refine e_iload dX12_feed_44 rfl ?_
    refine e_callV [.int _] dX12_feed_46 tm_12_119 rfl (Nat.le_of_ble_eq_true rfl) (rk_s k30) (Nat.le_of_ble_eq_true rfl) (Nat.le_refl _) (Nat.le_refl _) rfl (zp_X12_four k30 p29 v5 ⟨by omega, by omega⟩ (by omega) (fun  h33 f34 p35 => ?_))
    have k36 := rk_q (frm_s f34) k30
    have FR37 := frm_t FR31 (frm_m (S' := (fun a k => (a = m ∧ k = 0) ∨ (a = m + 2 ∧ k = 0) ∨ (a = m + 1 ∧ k < 600))) f34 (fun a k q => by omega))
    have y38 := cn_ap3 (apS (apS (apS (apS σ v1) v2) v3) v4) v5
    refine e_aload_n dX12_feed_49 rfl ?_
    refine e_get (.ref (m + 2)) dX12_feed_50 tf_12_13 (rk_s k36) (congrArg va_rf (rk_r2 k36)) ?_
    refine z_iconst (0) dX12_feed_53 rfl ?_
    refine z_ild (cn (apS (apS (apS (apS (apS σ v1) v2) v3) v4) v5) 3) dX12_feed_54 (rk_a2 k36) (by decide) (by omega) (by omega) (refT_3 p35) ?_
    have y39 := wS_n (refT_w p35)
    refine z_iret dX12_feed_55 rfl ⟨rfl, ?_⟩
    exact z_q (kq _ FR37 p35) (by omega)
  · exfalso; omega
set_option maxHeartbeats 400000 in
theorem zp_X12_feed_out {ad : mA} {dd : Nat} {h : mH} {Q : mQ} {m : Nat} {σ : Sg} (hk : rk h m) (HR : refT h m 0 σ)  (v1 : Int) (v1_r : -2147483648 ≤ v1 ∧ v1 < 2147483648) (v2 : Int) (v2_r : -2147483648 ≤ v2 ∧ v2 < 2147483648) (v3 : Int) (v3_r : -2147483648 ≤ v3 ∧ v3 < 2147483648) (v4 : Int) (v4_r : -2147483648 ≤ v4 ∧ v4 < 2147483648) (v5 : Int) (v5_r : -2147483648 ≤ v5 ∧ v5 < 2147483648) (p1 : ¬ cn σ 3 + 20 ≤ 600) (kq : ∀ h1, frm (fun a k => (a = m ∧ k = 0)) h h1 → (refT h1 m 0 σ) → Q (some (.int (zI (-1)))) h1) : mCal TB0 ad (dd + 2) M_X12_feed [.ref m, .int (zI v1), .int (zI v2), .int (zI v3), .int (zI v4), .int (zI v5)] h 0 0 Q := by
  refine ⟨Nat.le_of_ble_eq_true rfl, ?_⟩
  show mEv TB0 ad M_X12_feed (dd + 2) (0, 0) (mCal TB0 ad (dd + 1)) (fun v h' z => z.1 = 0 ∧ Q v h') 0 [some (.ref m), some (.int (zI v1)), some (.int (zI v2)), some (.int (zI v3)), some (.int (zI v4)), some (.int (zI v5))] [] h (0, 0)
  have FR0 : frm (fun a k => (a = m ∧ k = 0)) h h := frm_0 h
  have w1 := wS_n (refT_w HR)
  refine e_aload_n dX12_feed_0 rfl ?_
  refine z_iconst (0) dX12_feed_1 rfl ?_
  refine z_put dX12_feed_2 tf_12_103 (rk_s hk) rfl (Or.inl rfl) (fun h1 e2 => ?_)
  have f3 := frm_1 e2
  have k4 := rk_q (frm_s f3) hk
  have H5 := refT_c f3 (fun a k q1 q2 => by omega) HR
  have FR6 := frm_t FR0 (frm_m (S' := (fun a k => (a = m ∧ k = 0))) f3 (fun a k q => by omega))
  refine e_aload_n dX12_feed_5 rfl ?_
  refine e_get (.ref (m + 2)) dX12_feed_6 tf_12_13 (rk_s k4) (congrArg va_rf (rk_r2 k4)) ?_
  refine z_iconst (0) dX12_feed_9 rfl ?_
  refine z_ild (cn σ 3) dX12_feed_10 (rk_a2 k4) (by decide) (by omega) (by omega) (refT_3 H5) ?_
  have y7 := wS_n (refT_w H5)
  refine z_bipush (20) dX12_feed_11 rfl ?_
  refine z_iadd dX12_feed_13 ?_
  refine z_sipush (600) dX12_feed_14 rfl ?_
  refine z_icmp_le 22 dX12_feed_17 rfl ⟨by omega, by omega⟩ ⟨by omega, by omega⟩ (fun c8 => ?_) (fun c8 => ?_)
  · exfalso; omega
  · skip
    refine z_iconst (-1) dX12_feed_20 rfl ?_
    refine z_iret dX12_feed_21 rfl ⟨rfl, ?_⟩
    exact kq _ FR6 H5
theorem op0 {ad : mA} {B : Nat} : op_0 ad B (Inv B) := by
  intro a b c e f
  rw [← zI_toInt a, ← zI_toInt b, ← zI_toInt c, ← zI_toInt e, ← zI_toInt f]
  have ra := in_of a
  have rb := in_of b
  have rc := in_of c
  have re := in_of e
  have rf := in_of f
  generalize a.toInt = a at *
  generalize b.toInt = b at *
  generalize c.toInt = c at *
  generalize e.toInt = e at *
  generalize f.toInt = f at *
  refine opu_I (fun σ σ' r => (cn σ 3 + 20 ≤ 600 ∧ σ' = apS (apS (apS (apS (apS σ a) b) c) e) f ∧ r = cn σ 3 + 20) ∨ (¬ cn σ 3 + 20 ≤ 600 ∧ σ' = σ ∧ r = -1)) (fun σ σ1 σ2 r1 r2 _ x y => ?_) (fun h σ hk HX Q kq => ?_) (fun h σ hr HR Q kq => ?_)
  · rcases x with ⟨x1, x2, x3⟩ | ⟨x1, x2, x3⟩ <;> rcases y with ⟨y1, y2, y3⟩ | ⟨y1, y2, y3⟩
    · exact ⟨x2.trans y2.symm, x3.trans y3.symm⟩
    · exact absurd x1 y1
    · exact absurd y1 x1
    · exact ⟨x2.trans y2.symm, x3.trans y3.symm⟩
  · by_cases q : cn σ 3 + 20 ≤ 600
    · exact zp_X11_feed_in hk HX a ra b rb c rc e re f rf q (fun h1 fr C => kq _ _ _ (frm_m fr (fun a k z => by unfold cset; omega)) C (Or.inl ⟨q, rfl, rfl⟩))
    · exact zp_X11_feed_out hk HX a ra b rb c rc e re f rf q (kq _ _ _ (frm_0 h) HX (Or.inr ⟨q, rfl, rfl⟩))
  · by_cases q : cn σ 3 + 20 ≤ 600
    · exact zp_X12_feed_in hr HR a ra b rb c rc e re f rf q (fun h1 fr C => kq _ _ _ (frm_m fr (fun a k z => by unfold rset; omega)) C (Or.inl ⟨q, rfl, rfl⟩))
    · exact zp_X12_feed_out hr HR a ra b rb c rc e re f rf q (fun h1 fr C => kq _ _ _ (frm_m fr (fun a k z => by unfold rset; omega)) C (Or.inr ⟨q, rfl, rfl⟩))
