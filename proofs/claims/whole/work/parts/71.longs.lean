/-! LONGS; the greatest divisor -/
theorem dX11_greatestDivisor_0 : decode cX11_greatestDivisor 0 = .ok (.lload_n 0, 1) := by decide +kernel
theorem dX11_greatestDivisor_1 : decode cX11_greatestDivisor 1 = .ok (.invokestatic 326, 3) := by decide +kernel
theorem dX11_greatestDivisor_4 : decode cX11_greatestDivisor 4 = .ok (.lstore 4, 2) := by decide +kernel
theorem dX11_greatestDivisor_6 : decode cX11_greatestDivisor 6 = .ok (.lload_n 2, 1) := by decide +kernel
theorem dX11_greatestDivisor_7 : decode cX11_greatestDivisor 7 = .ok (.invokestatic 326, 3) := by decide +kernel
theorem dX11_greatestDivisor_10 : decode cX11_greatestDivisor 10 = .ok (.lstore 6, 2) := by decide +kernel
theorem dX11_greatestDivisor_12 : decode cX11_greatestDivisor 12 = .ok (.iconst 0, 1) := by decide +kernel
theorem dX11_greatestDivisor_13 : decode cX11_greatestDivisor 13 = .ok (.istore 8, 2) := by decide +kernel
theorem dX11_greatestDivisor_15 : decode cX11_greatestDivisor 15 = .ok (.iload 8, 2) := by decide +kernel
theorem dX11_greatestDivisor_17 : decode cX11_greatestDivisor 17 = .ok (.sipush 200, 3) := by decide +kernel
theorem dX11_greatestDivisor_20 : decode cX11_greatestDivisor 20 = .ok (.if_icmp .ge 31, 3) := by decide +kernel
theorem dX11_greatestDivisor_23 : decode cX11_greatestDivisor 23 = .ok (.lload 6, 2) := by decide +kernel
theorem dX11_greatestDivisor_25 : decode cX11_greatestDivisor 25 = .ok (.lconst 0, 1) := by decide +kernel
theorem dX11_greatestDivisor_26 : decode cX11_greatestDivisor 26 = .ok (.lcmp, 1) := by decide +kernel
theorem dX11_greatestDivisor_27 : decode cX11_greatestDivisor 27 = .ok (.ifCond .eq 24, 3) := by decide +kernel
theorem dX11_greatestDivisor_30 : decode cX11_greatestDivisor 30 = .ok (.lload 4, 2) := by decide +kernel
theorem dX11_greatestDivisor_32 : decode cX11_greatestDivisor 32 = .ok (.lload 6, 2) := by decide +kernel
theorem dX11_greatestDivisor_34 : decode cX11_greatestDivisor 34 = .ok (.lrem, 1) := by decide +kernel
theorem dX11_greatestDivisor_35 : decode cX11_greatestDivisor 35 = .ok (.lstore 9, 2) := by decide +kernel
theorem dX11_greatestDivisor_37 : decode cX11_greatestDivisor 37 = .ok (.lload 6, 2) := by decide +kernel
theorem dX11_greatestDivisor_39 : decode cX11_greatestDivisor 39 = .ok (.lstore 4, 2) := by decide +kernel
theorem dX11_greatestDivisor_41 : decode cX11_greatestDivisor 41 = .ok (.lload 9, 2) := by decide +kernel
theorem dX11_greatestDivisor_43 : decode cX11_greatestDivisor 43 = .ok (.lstore 6, 2) := by decide +kernel
theorem dX11_greatestDivisor_45 : decode cX11_greatestDivisor 45 = .ok (.iinc 8 1, 3) := by decide +kernel
theorem dX11_greatestDivisor_48 : decode cX11_greatestDivisor 48 = .ok (.goto (-33), 3) := by decide +kernel
theorem dX11_greatestDivisor_51 : decode cX11_greatestDivisor 51 = .ok (.lconst 1, 1) := by decide +kernel
theorem dX11_greatestDivisor_52 : decode cX11_greatestDivisor 52 = .ok (.lload 4, 2) := by decide +kernel
theorem dX11_greatestDivisor_54 : decode cX11_greatestDivisor 54 = .ok (.invokestatic 329, 3) := by decide +kernel
theorem dX11_greatestDivisor_57 : decode cX11_greatestDivisor 57 = .ok (.lreturn, 1) := by decide +kernel
theorem dX12_common_0 : decode cX12_common 0 = .ok (.lload_n 0, 1) := by decide +kernel
theorem dX12_common_1 : decode cX12_common 1 = .ok (.lstore 4, 2) := by decide +kernel
theorem dX12_common_3 : decode cX12_common 3 = .ok (.lload_n 2, 1) := by decide +kernel
theorem dX12_common_4 : decode cX12_common 4 = .ok (.lstore 6, 2) := by decide +kernel
theorem dX12_common_6 : decode cX12_common 6 = .ok (.lload 6, 2) := by decide +kernel
theorem dX12_common_8 : decode cX12_common 8 = .ok (.lconst 0, 1) := by decide +kernel
theorem dX12_common_9 : decode cX12_common 9 = .ok (.lcmp, 1) := by decide +kernel
theorem dX12_common_10 : decode cX12_common 10 = .ok (.ifCond .eq 21, 3) := by decide +kernel
theorem dX12_common_13 : decode cX12_common 13 = .ok (.lload 4, 2) := by decide +kernel
theorem dX12_common_15 : decode cX12_common 15 = .ok (.lload 6, 2) := by decide +kernel
theorem dX12_common_17 : decode cX12_common 17 = .ok (.lrem, 1) := by decide +kernel
theorem dX12_common_18 : decode cX12_common 18 = .ok (.lstore 8, 2) := by decide +kernel
theorem dX12_common_20 : decode cX12_common 20 = .ok (.lload 6, 2) := by decide +kernel
theorem dX12_common_22 : decode cX12_common 22 = .ok (.lstore 4, 2) := by decide +kernel
theorem dX12_common_24 : decode cX12_common 24 = .ok (.lload 8, 2) := by decide +kernel
theorem dX12_common_26 : decode cX12_common 26 = .ok (.lstore 6, 2) := by decide +kernel
theorem dX12_common_28 : decode cX12_common 28 = .ok (.goto (-22), 3) := by decide +kernel
theorem dX12_common_31 : decode cX12_common 31 = .ok (.lload 4, 2) := by decide +kernel
theorem dX12_common_33 : decode cX12_common 33 = .ok (.lreturn, 1) := by decide +kernel
set_option maxRecDepth 20000 in
theorem tm_11_326 : tMet TB0 11 326 = some (13, M_none) := rfl
set_option maxRecDepth 20000 in
theorem tm_11_329 : tMet TB0 11 329 = some (14, M_none) := rfl
/-! LONGS AS Int -/
def zJ (z : Int) : Int64 := Int64.ofInt z
abbrev inJ (z : Int) : Prop := -9223372036854775808 ≤ z ∧ z < 9223372036854775808
theorem zJ_toInt (x : Int64) : zJ x.toInt = x := Int64.ofInt_toInt x
theorem toInt_zJ {z : Int} (h : inJ z) : (zJ z).toInt = z := Int64.toInt_ofInt_of_le h.1 h.2
theorem zJ_add (a b : Int) : zJ a + zJ b = zJ (a + b) := (Int64.ofInt_add a b).symm
theorem zJ_sub (a b : Int) : zJ a - zJ b = zJ (a - b) := (Int64.ofInt_sub a b).symm
theorem zJ_mul (a b : Int) : zJ a * zJ b = zJ (a * b) := (Int64.ofInt_mul a b).symm
theorem zJ_lt {a b : Int} (ha : inJ a) (hb : inJ b) : zJ a < zJ b ↔ a < b := by rw [Int64.lt_iff_toInt_lt, toInt_zJ ha, toInt_zJ hb]
theorem zJ_eq {a b : Int} (ha : inJ a) (hb : inJ b) : zJ a = zJ b ↔ a = b := by rw [← Int64.toInt_inj, toInt_zJ ha, toInt_zJ hb]
theorem zJ_div {a b : Int} (ha : 0 ≤ a) (ha2 : a < 9223372036854775808) (h0 : 0 < b) (hb : b < 9223372036854775808) : zJ a / zJ b = zJ (a / b) := by
  have hn : zJ b ≠ -1 := by
    intro q
    have h2 := congrArg Int64.toInt q
    rw [toInt_zJ ⟨by omega, hb⟩] at h2
    have h1 : (-1 : Int64).toInt = -1 := by decide
    omega
  rw [← Int64.toInt_inj, Int64.toInt_div_of_ne_right _ _ hn, toInt_zJ ⟨by omega, ha2⟩, toInt_zJ ⟨by omega, hb⟩, Int.tdiv_eq_ediv_of_nonneg ha]
  have h1 := Int.ediv_le_self b ha
  have h2 := Int.ediv_nonneg ha (show 0 ≤ b by omega)
  exact (toInt_zJ ⟨by omega, by omega⟩).symm
theorem zJ_rem {a b : Int} (ha : 0 ≤ a) (ha2 : a < 9223372036854775808) (h0 : 0 < b) (hb : b < 9223372036854775808) : zJ a - zJ a / zJ b * zJ b = zJ (a % b) := by
  rw [zJ_div ha ha2 h0 hb, zJ_mul, zJ_sub]
  congr 1
  have := Int.emod_def a b
  rw [this, Int.mul_comm]
theorem zJ_0 : zJ 0 = 0 := rfl
theorem zJ_ne0 {b : Int} (h0 : 0 < b) (hb : b < 9223372036854775808) : ¬ zJ b = 0 := fun q => by
  have := (zJ_eq ⟨by omega, hb⟩ ⟨by omega, by omega⟩).mp (q.trans zJ_0.symm)
  omega
theorem zJ_i {x : Int} (hx : inI x) : (zI x).toInt64 = zJ x := by
  rw [← Int64.toInt_inj, Int32.toInt_toInt64, toInt_zI hx, toInt_zJ ⟨by omega, by omega⟩]
def cmpZ (x y : Int) : Int := if y < x then 1 else if x = y then 0 else -1
theorem cmp_z {x y : Int} (hx : inJ x) (hy : inJ y) : lg_cmp (zJ x) (zJ y) = zI (cmpZ x y) := by
  unfold lg_cmp cmpZ
  by_cases c : y < x
  · rw [if_pos (show zJ x > zJ y from (zJ_lt hy hx).mpr c), if_pos c]; rfl
  · rw [if_neg (show ¬ zJ x > zJ y from fun q => c ((zJ_lt hy hx).mp q)), if_neg c]
    by_cases d : x = y
    · rw [if_pos ((zJ_eq hx hy).mpr d), if_pos d]; rfl
    · rw [if_neg (fun q => d ((zJ_eq hx hy).mp q)), if_neg d]; rfl
theorem cmp_b (x y : Int) : inI (cmpZ x y) := by unfold cmpZ; split; exact ⟨by omega, by omega⟩; split <;> exact ⟨by omega, by omega⟩
theorem cmp_eq {x y : Int} : cmpZ x y = 0 ↔ x = y := by unfold cmpZ; split; constructor <;> intro q <;> omega; split <;> constructor <;> intro q <;> omega
theorem cmp_lt {x y : Int} : cmpZ x y < 0 ↔ x < y := by unfold cmpZ; split; constructor <;> intro q <;> omega; split <;> constructor <;> intro q <;> omega
theorem z_qJ {Q : mQ} {a b : Int} {h : mH} (k : Q (some (.long (zJ a))) h) (e : b = a) : Q (some (.long (zJ b))) h := by rw [e]; exact k
section ZLong
variable {T : mTb} {ad : mA} {M : mM} {dp : Nat} {lim : Nat × Nat} {cal : mC} {Q : mZ} {pc : Nat} {L L' : mL} {h : mH} {zz : Nat × Nat} {r st : List Value}
theorem z_lconst {i : Fin 2} (v : Int) (hd : decode (mMc M) pc = .ok (.lconst i, 1)) (hv : Int64.ofNat (i : Nat) = zJ v) (k : mEv T ad M dp lim cal Q (pc + 1) L (.long (zJ v) :: st) h zz) : mEv T ad M dp lim cal Q pc L st h zz := e_lconst _ hd hv k
theorem z_ldc2 {i : Nat} {x : Int64} (v : Int) (hd : decode (mMc M) pc = .ok (.ldc2_w i, 3)) (ht : tLdl T (mMo M) i = some x) (hv : x = zJ v) (k : mEv T ad M dp lim cal Q (pc + 3) L (.long (zJ v) :: st) h zz) : mEv T ad M dp lim cal Q pc L st h zz := e_ldc2 hd ht (by rw [hv]; exact k)
theorem z_ladd {x y : Int} (hd : decode (mMc M) pc = .ok (.ladd, 1)) (k : mEv T ad M dp lim cal Q (pc + 1) L (.long (zJ (x + y)) :: r) h zz) : mEv T ad M dp lim cal Q pc L (.long (zJ y) :: .long (zJ x) :: r) h zz := e_ladd hd (by rw [zJ_add]; exact k)
theorem z_lmul {x y : Int} (hd : decode (mMc M) pc = .ok (.lmul, 1)) (k : mEv T ad M dp lim cal Q (pc + 1) L (.long (zJ (x * y)) :: r) h zz) : mEv T ad M dp lim cal Q pc L (.long (zJ y) :: .long (zJ x) :: r) h zz := e_lmul hd (by rw [zJ_mul]; exact k)
theorem z_ldiv {x y : Int} (hd : decode (mMc M) pc = .ok (.ldiv, 1)) (h1 : 0 ≤ x) (h2 : x < 9223372036854775808) (h3 : 0 < y) (h4 : y < 9223372036854775808) (k : mEv T ad M dp lim cal Q (pc + 1) L (.long (zJ (x / y)) :: r) h zz) : mEv T ad M dp lim cal Q pc L (.long (zJ y) :: .long (zJ x) :: r) h zz := e_ldiv hd (zJ_ne0 h3 h4) (by rw [zJ_div h1 h2 h3 h4]; exact k)
theorem z_lrem {x y : Int} (hd : decode (mMc M) pc = .ok (.lrem, 1)) (h1 : 0 ≤ x) (h2 : x < 9223372036854775808) (h3 : 0 < y) (h4 : y < 9223372036854775808) (k : mEv T ad M dp lim cal Q (pc + 1) L (.long (zJ (x % y)) :: r) h zz) : mEv T ad M dp lim cal Q pc L (.long (zJ y) :: .long (zJ x) :: r) h zz := e_lrem hd (zJ_ne0 h3 h4) (by rw [zJ_rem h1 h2 h3 h4]; exact k)
theorem z_i2l {x : Int} (hd : decode (mMc M) pc = .ok (.i2l, 1)) (hx : inI x) (k : mEv T ad M dp lim cal Q (pc + 1) L (.long (zJ x) :: r) h zz) : mEv T ad M dp lim cal Q pc L (.int (zI x) :: r) h zz := e_i2l hd (by rw [zJ_i hx]; exact k)
theorem z_lcmp {x y : Int} (hd : decode (mMc M) pc = .ok (.lcmp, 1)) (hx : inJ x) (hy : inJ y) (k : mEv T ad M dp lim cal Q (pc + 1) L (.int (zI (cmpZ x y)) :: r) h zz) : mEv T ad M dp lim cal Q pc L (.long (zJ y) :: .long (zJ x) :: r) h zz := e_lcmp hd (by rw [cmp_z hx hy]; exact k)
theorem z_ifl_eq {x y : Int} {off : Int} (t : Nat) (hd : decode (mMc M) pc = .ok (.ifCond .eq off, 3)) (ht : (pc : Int) + off = (t : Int)) (kt : x = y → mEv T ad M dp lim cal Q t L r h zz) (kf : ¬ x = y → mEv T ad M dp lim cal Q (pc + 3) L r h zz) : mEv T ad M dp lim cal Q pc L (.int (zI (cmpZ x y)) :: r) h zz := z_if_eq t hd ht (cmp_b x y) (fun q => kt (cmp_eq.mp q)) (fun q => kf (fun w => q (cmp_eq.mpr w)))
theorem z_ifl_lt {x y : Int} {off : Int} (t : Nat) (hd : decode (mMc M) pc = .ok (.ifCond .lt off, 3)) (ht : (pc : Int) + off = (t : Int)) (kt : x < y → mEv T ad M dp lim cal Q t L r h zz) (kf : y ≤ x → mEv T ad M dp lim cal Q (pc + 3) L r h zz) : mEv T ad M dp lim cal Q pc L (.int (zI (cmpZ x y)) :: r) h zz := z_if_lt t hd ht (cmp_b x y) (fun q => kt (cmp_lt.mp q)) (fun q => kf (Int.not_lt.mp (fun w => absurd (cmp_lt.mpr w) (by omega))))
theorem z_labs {N : mM} {i : Nat} {x : Int} (hd : decode (mMc M) pc = .ok (.invokestatic i, 3)) (ht : tMet T (mMo M) i = some (13, N)) (h8 : (r.map fun v => v.category).sum ≤ 8) (hx : 0 ≤ x ∧ x < 9223372036854775808) (k : mEv T ad M dp lim cal Q (pc + 3) L (.long (zJ x) :: r) h zz) : mEv T ad M dp lim cal Q pc L (.long (zJ x) :: r) h zz := e_labs hd ht h8 (by
  rw [show (if 0 < zJ x then zJ x else - zJ x) = zJ x by
    by_cases c : 0 < x
    · rw [if_pos (by rw [← zJ_0]; exact (zJ_lt ⟨by omega, by omega⟩ ⟨by omega, by omega⟩).mpr c)]
    · rw [show x = 0 by omega]; decide]
  exact k)
theorem z_lmax {N : mM} {i : Nat} {x y : Int} (hd : decode (mMc M) pc = .ok (.invokestatic i, 3)) (ht : tMet T (mMo M) i = some (14, N)) (h8 : (r.map fun v => v.category).sum ≤ 8) (ha : inJ x) (hb : inJ y) (k : mEv T ad M dp lim cal Q (pc + 3) L (.long (zJ (max x y)) :: r) h zz) : mEv T ad M dp lim cal Q pc L (.long (zJ y) :: .long (zJ x) :: r) h zz := e_lmax hd ht h8 (by
  rw [show (if zJ y < zJ x then zJ x else zJ y) = zJ (max x y) by
    by_cases c : y < x
    · rw [if_pos ((zJ_lt hb ha).mpr c), Int.max_eq_left (by omega)]
    · rw [if_neg (fun q => c ((zJ_lt hb ha).mp q)), Int.max_eq_right (by omega)]]
  exact k)
theorem z_lret {x : Int} (hd : decode (mMc M) pc = .ok (.lreturn, 1)) (hr : mMr M = some .long) (k : Q (some (.long (zJ x))) h zz) : mEv T ad M dp lim cal Q pc L [.long (zJ x)] h zz := e_lret hd hr k
end ZLong
/-- the greatest that divides both -/
def gcZ (a b : Int) : Int := ((Nat.gcd a.toNat b.toNat : Nat) : Int)
theorem gcZ_s {p q : Int} (hp : 0 ≤ p) (hq : 0 < q) : gcZ q (p % q) = gcZ p q := by
  unfold gcZ
  rw [show (p % q).toNat = p.toNat % q.toNat by
    have := Int.emod_nonneg p (show q ≠ 0 by omega)
    have e : ((p.toNat % q.toNat : Nat) : Int) = p % q := by rw [Int.natCast_emod, Int.toNat_of_nonneg hp, Int.toNat_of_nonneg (by omega)]
    omega]
  rw [Nat.gcd_comm q.toNat, ← Nat.gcd_rec, Nat.gcd_comm]
theorem gcZ_0 {p : Int} (hp : 0 ≤ p) : gcZ p 0 = p := by
  unfold gcZ
  rw [show (0 : Int).toNat = 0 from rfl, Nat.gcd_zero_right]; omega
theorem gcZ_c (a b : Int) : gcZ a b = gcZ b a := by unfold gcZ; rw [Nat.gcd_comm]
theorem gcZ_p {a b : Int} (h : 0 < a) : 0 < gcZ a b ∧ gcZ a b ≤ a := by
  have h1 := Nat.gcd_pos_of_pos_left b.toNat (show 0 < a.toNat by omega)
  have h2 := Nat.gcd_le_left b.toNat (show 0 < a.toNat by omega)
  unfold gcZ; omega
set_option maxHeartbeats 400000 in
theorem zp_X12_common {ad : mA} {dd : Nat} {h : mH} {Q : mQ}    (a : Int) (c : Int) (p1 : 0 < a ∧ a < 1000000000000) (p2 : 0 ≤ c ∧ c < 1000000000000) (kq : Q (some (.long (zJ (gcZ a c)))) h) : mCal TB0 ad (dd + 1) M_X12_common [.long (zJ a), .long (zJ c)] h 0 0 Q := by
  refine ⟨Nat.le_of_ble_eq_true rfl, ?_⟩
  show mEv TB0 ad M_X12_common (dd + 1) (0, 0) (mCal TB0 ad (dd + 0)) (fun v h' z => z.1 = 0 ∧ Q v h') 0 [some (.long (zJ a)), none, some (.long (zJ c)), none, none, none, none, none, none, none] [] h (0, 0)
  refine e_lload_n dX12_common_0 rfl ?_
  refine e_lstore (L' := [_, _, _, _, _, _, _, _, _, _]) dX12_common_1 (Nat.le_of_ble_eq_true rfl) rfl ?_
  refine e_lload_n dX12_common_3 rfl ?_
  refine e_lstore (L' := [_, _, _, _, _, _, _, _, _, _]) dX12_common_4 (Nat.le_of_ble_eq_true rfl) rfl ?_
  have lp1 : ∀ (n1 : Nat) (p q : Int), (q).toNat = n1 → (0 ≤ p ∧ p < 1000000000000) → (0 ≤ q ∧ q < 1000000000000) → (gcZ p q = gcZ a c) → mEv TB0 ad M_X12_common (dd + 1) (0, 0) (mCal TB0 ad (dd + 0)) (fun v h' z => z.1 = 0 ∧ Q v h') 6 [some (.long (zJ a)), none, some (.long (zJ c)), none, some (.long (zJ p)), none, some (.long (zJ q)), none, none, none] [] h (0, 0) := by
    intro n1
    induction n1 using Nat.strongRecOn with
    | ind n1 ih1 =>
    intro p q  hn1  I1 I2 I3
    refine e_lload dX12_common_6 rfl ?_
    refine z_lconst (0) dX12_common_8 rfl ?_
    refine z_lcmp dX12_common_9 ⟨by omega, by omega⟩ ⟨by omega, by omega⟩ ?_
    refine z_ifl_eq 31 dX12_common_10 rfl (fun c2 => ?_) (fun c2 => ?_)
    · skip
      refine e_lload dX12_common_31 rfl ?_
      refine z_lret dX12_common_33 rfl ⟨rfl, ?_⟩
      refine z_qJ kq ?_
      rw [← I3, show q = 0 by omega, gcZ_0 (by omega)]
    · skip
      refine e_lload dX12_common_13 rfl ?_
      refine e_lload dX12_common_15 rfl ?_
      refine z_lrem dX12_common_17 (by omega) (by omega) (by omega) (by omega) ?_
      refine e_lstore (L' := [_, _, _, _, _, _, _, _, _, _]) dX12_common_18 (Nat.le_of_ble_eq_true rfl) rfl ?_
      refine e_lload dX12_common_20 rfl ?_
      refine e_lstore (L' := [_, _, _, _, _, _, _, _, _, _]) dX12_common_22 (Nat.le_of_ble_eq_true rfl) rfl ?_
      refine e_lload dX12_common_24 rfl ?_
      refine e_lstore (L' := [_, _, _, _, _, _, _, _, _, _]) dX12_common_26 (Nat.le_of_ble_eq_true rfl) rfl ?_
      refine e_goto 6 dX12_common_28 rfl ?_
      have m1 := Int.emod_nonneg p (show q ≠ 0 by omega)
      have m2 := Int.emod_lt_of_pos p (show 0 < q by omega)
      exact mEv_wk (by exact ⟨Or.inr rfl, Or.inl rfl, Or.inr rfl, Or.inl rfl, Or.inr rfl, Or.inl rfl, Or.inr rfl, Or.inl rfl, Or.inl rfl, Or.inl rfl, trivial⟩) (ih1 _ (by omega) q (p % q)  rfl  (by omega) (by omega) ((gcZ_s (by omega) (by omega)).trans I3))
  exact lp1 _ a c  rfl  (by omega) (by omega) rfl
set_option maxHeartbeats 400000 in
theorem zp_X11_greatestDivisor_60 {ad : mA} {dd : Nat} {h : mH} {Q : mQ}    (a : Int) (c : Int) (p1 : 0 ≤ a ∧ a < 1000000000000) (p2 : c = 60) (kq : Q (some (.long (zJ (gcZ 60 a)))) h) : mCal TB0 ad (dd + 1) M_X11_greatestDivisor [.long (zJ a), .long (zJ c)] h 0 0 Q := by
  refine ⟨Nat.le_of_ble_eq_true rfl, ?_⟩
  show mEv TB0 ad M_X11_greatestDivisor (dd + 1) (0, 0) (mCal TB0 ad (dd + 0)) (fun v h' z => z.1 = 0 ∧ Q v h') 0 [some (.long (zJ a)), none, some (.long (zJ c)), none, none, none, none, none, none, none, none] [] h (0, 0)
  refine e_lload_n dX11_greatestDivisor_0 rfl ?_
  refine z_labs dX11_greatestDivisor_1 tm_11_326 (Nat.le_of_ble_eq_true rfl) ⟨by omega, by omega⟩ ?_
  refine e_lstore (L' := [_, _, _, _, _, _, _, _, _, _, _]) dX11_greatestDivisor_4 (Nat.le_of_ble_eq_true rfl) rfl ?_
  refine e_lload_n dX11_greatestDivisor_6 rfl ?_
  refine z_labs dX11_greatestDivisor_7 tm_11_326 (Nat.le_of_ble_eq_true rfl) ⟨by omega, by omega⟩ ?_
  refine e_lstore (L' := [_, _, _, _, _, _, _, _, _, _, _]) dX11_greatestDivisor_10 (Nat.le_of_ble_eq_true rfl) rfl ?_
  refine z_iconst (0) dX11_greatestDivisor_12 rfl ?_
  refine e_istore (L' := [_, _, _, _, _, _, _, _, _, _, _]) dX11_greatestDivisor_13 (Nat.le_of_ble_eq_true rfl) rfl ?_
  have lp1 : ∀ (n1 : Nat) (p q i : Int), (q).toNat = n1 → (0 ≤ p ∧ p < 1000000000000) → (0 ≤ q ∧ q + i ≤ 60) → (gcZ p q = gcZ 60 a) → (0 ≤ i ∧ i ≤ 100) → (0 < p + q) → mEv TB0 ad M_X11_greatestDivisor (dd + 1) (0, 0) (mCal TB0 ad (dd + 0)) (fun v h' z => z.1 = 0 ∧ Q v h') 15 [some (.long (zJ a)), none, some (.long (zJ c)), none, some (.long (zJ p)), none, some (.long (zJ q)), none, some (.int (zI i)), none, none] [] h (0, 0) := by
    intro n1
    induction n1 using Nat.strongRecOn with
    | ind n1 ih1 =>
    intro p q i  hn1  I1 I2 I3 I4 I5
    refine e_iload dX11_greatestDivisor_15 rfl ?_
    refine z_sipush (200) dX11_greatestDivisor_17 rfl ?_
    refine z_icmp_ge 51 dX11_greatestDivisor_20 rfl ⟨by omega, by omega⟩ ⟨by omega, by omega⟩ (fun c2 => ?_) (fun c2 => ?_)
    · skip
      refine z_lconst (1) dX11_greatestDivisor_51 rfl ?_
      refine e_lload dX11_greatestDivisor_52 rfl ?_
      refine z_lmax dX11_greatestDivisor_54 tm_11_329 (Nat.le_of_ble_eq_true rfl) ⟨by omega, by omega⟩ ⟨by omega, by omega⟩ ?_
      refine z_lret dX11_greatestDivisor_57 rfl ⟨rfl, ?_⟩
      refine z_qJ kq ?_
      rw [← I3, show q = 0 by omega, gcZ_0 (by omega)]; omega
    · skip
      refine e_lload dX11_greatestDivisor_23 rfl ?_
      refine z_lconst (0) dX11_greatestDivisor_25 rfl ?_
      refine z_lcmp dX11_greatestDivisor_26 ⟨by omega, by omega⟩ ⟨by omega, by omega⟩ ?_
      refine z_ifl_eq 51 dX11_greatestDivisor_27 rfl (fun c3 => ?_) (fun c3 => ?_)
      · skip
        refine z_lconst (1) dX11_greatestDivisor_51 rfl ?_
        refine e_lload dX11_greatestDivisor_52 rfl ?_
        refine z_lmax dX11_greatestDivisor_54 tm_11_329 (Nat.le_of_ble_eq_true rfl) ⟨by omega, by omega⟩ ⟨by omega, by omega⟩ ?_
        refine z_lret dX11_greatestDivisor_57 rfl ⟨rfl, ?_⟩
        refine z_qJ kq ?_
        rw [← I3, show q = 0 by omega, gcZ_0 (by omega)]; omega
      · skip
        refine e_lload dX11_greatestDivisor_30 rfl ?_
        refine e_lload dX11_greatestDivisor_32 rfl ?_
        refine z_lrem dX11_greatestDivisor_34 (by omega) (by omega) (by omega) (by omega) ?_
        refine e_lstore (L' := [_, _, _, _, _, _, _, _, _, _, _]) dX11_greatestDivisor_35 (Nat.le_of_ble_eq_true rfl) rfl ?_
        refine e_lload dX11_greatestDivisor_37 rfl ?_
        refine e_lstore (L' := [_, _, _, _, _, _, _, _, _, _, _]) dX11_greatestDivisor_39 (Nat.le_of_ble_eq_true rfl) rfl ?_
        refine e_lload dX11_greatestDivisor_41 rfl ?_
        refine e_lstore (L' := [_, _, _, _, _, _, _, _, _, _, _]) dX11_greatestDivisor_43 (Nat.le_of_ble_eq_true rfl) rfl ?_
        refine z_iinc (L' := [_, _, _, _, _, _, _, _, _, _, _]) dX11_greatestDivisor_45 rfl rfl ?_
        refine e_goto 15 dX11_greatestDivisor_48 rfl ?_
        have m1 := Int.emod_nonneg p (show q ≠ 0 by omega)
        have m2 := Int.emod_lt_of_pos p (show 0 < q by omega)
        exact mEv_wk (by exact ⟨Or.inr rfl, Or.inl rfl, Or.inr rfl, Or.inl rfl, Or.inr rfl, Or.inl rfl, Or.inr rfl, Or.inl rfl, Or.inr rfl, Or.inl rfl, Or.inl rfl, trivial⟩) (ih1 _ (by omega) q (p % q) (i + 1)  rfl  (by omega) (by omega) ((gcZ_s (by omega) (by omega)).trans I3) (by omega) (by omega))
  exact lp1 _ a c 0  rfl  (by omega) (by omega) (by rw [p2, gcZ_c]) (by omega) (by omega)
