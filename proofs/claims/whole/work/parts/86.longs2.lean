/-! LONGS AS BITS, bitCount -/
theorem dJ13_bitCount_95d88_0 : decode cJ13_bitCount_95d88 0 = .ok (.lload_n 0, 1) := by decide +kernel
theorem dJ13_bitCount_95d88_1 : decode cJ13_bitCount_95d88 1 = .ok (.lload_n 0, 1) := by decide +kernel
theorem dJ13_bitCount_95d88_2 : decode cJ13_bitCount_95d88 2 = .ok (.iconst 1, 1) := by decide +kernel
theorem dJ13_bitCount_95d88_3 : decode cJ13_bitCount_95d88 3 = .ok (.lushr, 1) := by decide +kernel
theorem dJ13_bitCount_95d88_4 : decode cJ13_bitCount_95d88 4 = .ok (.ldc2_w 314, 3) := by decide +kernel
theorem dJ13_bitCount_95d88_7 : decode cJ13_bitCount_95d88 7 = .ok (.land, 1) := by decide +kernel
theorem dJ13_bitCount_95d88_8 : decode cJ13_bitCount_95d88 8 = .ok (.lsub, 1) := by decide +kernel
theorem dJ13_bitCount_95d88_9 : decode cJ13_bitCount_95d88 9 = .ok (.lstore_n 0, 1) := by decide +kernel
theorem dJ13_bitCount_95d88_10 : decode cJ13_bitCount_95d88 10 = .ok (.lload_n 0, 1) := by decide +kernel
theorem dJ13_bitCount_95d88_11 : decode cJ13_bitCount_95d88 11 = .ok (.ldc2_w 316, 3) := by decide +kernel
theorem dJ13_bitCount_95d88_14 : decode cJ13_bitCount_95d88 14 = .ok (.land, 1) := by decide +kernel
theorem dJ13_bitCount_95d88_15 : decode cJ13_bitCount_95d88 15 = .ok (.lload_n 0, 1) := by decide +kernel
theorem dJ13_bitCount_95d88_16 : decode cJ13_bitCount_95d88 16 = .ok (.iconst 2, 1) := by decide +kernel
theorem dJ13_bitCount_95d88_17 : decode cJ13_bitCount_95d88 17 = .ok (.lushr, 1) := by decide +kernel
theorem dJ13_bitCount_95d88_18 : decode cJ13_bitCount_95d88 18 = .ok (.ldc2_w 316, 3) := by decide +kernel
theorem dJ13_bitCount_95d88_21 : decode cJ13_bitCount_95d88 21 = .ok (.land, 1) := by decide +kernel
theorem dJ13_bitCount_95d88_22 : decode cJ13_bitCount_95d88 22 = .ok (.ladd, 1) := by decide +kernel
theorem dJ13_bitCount_95d88_23 : decode cJ13_bitCount_95d88 23 = .ok (.lstore_n 0, 1) := by decide +kernel
theorem dJ13_bitCount_95d88_24 : decode cJ13_bitCount_95d88 24 = .ok (.lload_n 0, 1) := by decide +kernel
theorem dJ13_bitCount_95d88_25 : decode cJ13_bitCount_95d88 25 = .ok (.lload_n 0, 1) := by decide +kernel
theorem dJ13_bitCount_95d88_26 : decode cJ13_bitCount_95d88 26 = .ok (.iconst 4, 1) := by decide +kernel
theorem dJ13_bitCount_95d88_27 : decode cJ13_bitCount_95d88 27 = .ok (.lushr, 1) := by decide +kernel
theorem dJ13_bitCount_95d88_28 : decode cJ13_bitCount_95d88 28 = .ok (.ladd, 1) := by decide +kernel
theorem dJ13_bitCount_95d88_29 : decode cJ13_bitCount_95d88 29 = .ok (.ldc2_w 318, 3) := by decide +kernel
theorem dJ13_bitCount_95d88_32 : decode cJ13_bitCount_95d88 32 = .ok (.land, 1) := by decide +kernel
theorem dJ13_bitCount_95d88_33 : decode cJ13_bitCount_95d88 33 = .ok (.lstore_n 0, 1) := by decide +kernel
theorem dJ13_bitCount_95d88_34 : decode cJ13_bitCount_95d88 34 = .ok (.lload_n 0, 1) := by decide +kernel
theorem dJ13_bitCount_95d88_35 : decode cJ13_bitCount_95d88 35 = .ok (.lload_n 0, 1) := by decide +kernel
theorem dJ13_bitCount_95d88_36 : decode cJ13_bitCount_95d88 36 = .ok (.bipush 8, 2) := by decide +kernel
theorem dJ13_bitCount_95d88_38 : decode cJ13_bitCount_95d88 38 = .ok (.lushr, 1) := by decide +kernel
theorem dJ13_bitCount_95d88_39 : decode cJ13_bitCount_95d88 39 = .ok (.ladd, 1) := by decide +kernel
theorem dJ13_bitCount_95d88_40 : decode cJ13_bitCount_95d88 40 = .ok (.lstore_n 0, 1) := by decide +kernel
theorem dJ13_bitCount_95d88_41 : decode cJ13_bitCount_95d88 41 = .ok (.lload_n 0, 1) := by decide +kernel
theorem dJ13_bitCount_95d88_42 : decode cJ13_bitCount_95d88 42 = .ok (.lload_n 0, 1) := by decide +kernel
theorem dJ13_bitCount_95d88_43 : decode cJ13_bitCount_95d88 43 = .ok (.bipush 16, 2) := by decide +kernel
theorem dJ13_bitCount_95d88_45 : decode cJ13_bitCount_95d88 45 = .ok (.lushr, 1) := by decide +kernel
theorem dJ13_bitCount_95d88_46 : decode cJ13_bitCount_95d88 46 = .ok (.ladd, 1) := by decide +kernel
theorem dJ13_bitCount_95d88_47 : decode cJ13_bitCount_95d88 47 = .ok (.lstore_n 0, 1) := by decide +kernel
theorem dJ13_bitCount_95d88_48 : decode cJ13_bitCount_95d88 48 = .ok (.lload_n 0, 1) := by decide +kernel
theorem dJ13_bitCount_95d88_49 : decode cJ13_bitCount_95d88 49 = .ok (.lload_n 0, 1) := by decide +kernel
theorem dJ13_bitCount_95d88_50 : decode cJ13_bitCount_95d88 50 = .ok (.bipush 32, 2) := by decide +kernel
theorem dJ13_bitCount_95d88_52 : decode cJ13_bitCount_95d88 52 = .ok (.lushr, 1) := by decide +kernel
theorem dJ13_bitCount_95d88_53 : decode cJ13_bitCount_95d88 53 = .ok (.ladd, 1) := by decide +kernel
theorem dJ13_bitCount_95d88_54 : decode cJ13_bitCount_95d88 54 = .ok (.lstore_n 0, 1) := by decide +kernel
theorem dJ13_bitCount_95d88_55 : decode cJ13_bitCount_95d88 55 = .ok (.lload_n 0, 1) := by decide +kernel
theorem dJ13_bitCount_95d88_56 : decode cJ13_bitCount_95d88 56 = .ok (.l2i, 1) := by decide +kernel
theorem dJ13_bitCount_95d88_57 : decode cJ13_bitCount_95d88 57 = .ok (.bipush 127, 2) := by decide +kernel
theorem dJ13_bitCount_95d88_59 : decode cJ13_bitCount_95d88 59 = .ok (.iand, 1) := by decide +kernel
theorem dJ13_bitCount_95d88_60 : decode cJ13_bitCount_95d88 60 = .ok (.ireturn, 1) := by decide +kernel
theorem tl_17_314 : tLdl TB0 17 314 = some (6148914691236517205) := rfl
theorem tl_17_316 : tLdl TB0 17 316 = some (3689348814741910323) := rfl
theorem tl_17_318 : tLdl TB0 17 318 = some (1085102592571150095) := rfl
/-! LONGS AS BITS (the first rows: kit/laws, BITS and COUNTS to paste) -/
theorem wb_tb (n : Nat) : (lN n).toBitVec = BitVec.ofNat 64 n := rfl
theorem wb_inj {a b : Int64} (h : a.toBitVec = b.toBitVec) : a = b := Int64.toBitVec_inj.mp h
theorem wb_tn {n : Nat} (h : n < 2 ^ 64) : (lN n).toBitVec.toNat = n := by rw [wb_tb, BitVec.toNat_ofNat, Nat.mod_eq_of_lt h]
theorem wb_c : ∀ k, k < 64 → ((nI k).toInt64 &&& 63) = lN k := by decide +kernel
theorem wb_cu : ∀ k, k < 64 → ((nI k).toInt64.toUInt64 &&& Int64.toUInt64 63) = UInt64.ofNat k := by decide +kernel
theorem wb_sm : ∀ k, k < 64 → (BitVec.ofNat 64 k).smod 64 = BitVec.ofNat 64 k := by decide +kernel
theorem wb_shr {n k : Nat} (hn : n < 2 ^ 64) (hk : k < 64) : ((lN n).toUInt64 >>> ((nI k).toInt64.toUInt64 &&& Int64.toUInt64 63)).toInt64 = lN (n / 2 ^ k) := by
  rw [wb_cu k hk]
  apply wb_inj
  apply BitVec.eq_of_toNat_eq
  show ((lN n).toUInt64 >>> UInt64.ofNat k).toNat = (BitVec.ofNat 64 _).toNat
  have h1 : (UInt64.ofNat k).toNat = k := by
    show (BitVec.ofNat 64 k).toNat = k
    rw [BitVec.toNat_ofNat, Nat.mod_eq_of_lt (by omega)]
  have h2 : (lN n).toUInt64.toNat = n := wb_tn hn
  rw [UInt64.toNat_shiftRight, h1, h2, Nat.mod_eq_of_lt hk, Nat.shiftRight_eq_div_pow, BitVec.toNat_ofNat, Nat.mod_eq_of_lt (Nat.lt_of_le_of_lt (Nat.div_le_self _ _) hn)]
theorem wb_shl (n : Nat) {k : Nat} (hk : k < 64) : lN n <<< ((nI k).toInt64 &&& 63) = lN (n * 2 ^ k) := by
  rw [wb_c k hk]
  apply wb_inj
  rw [Int64.toBitVec_shiftLeft, wb_tb, wb_tb, wb_tb, wb_sm k hk]
  apply BitVec.eq_of_toNat_eq
  rw [BitVec.shiftLeft_eq', BitVec.toNat_shiftLeft, BitVec.toNat_ofNat, BitVec.toNat_ofNat, BitVec.toNat_ofNat, Nat.mod_eq_of_lt (show k < 2 ^ 64 by omega), Nat.shiftLeft_eq, Nat.mul_mod, Nat.mod_mod, ← Nat.mul_mod]
theorem pf_lI {a : Nat} (h : a < 2 ^ 63) : (lN a).toInt = (a : Int) := lg_ofNat_toInt h
theorem pf_shr {a d : Nat} {D : Int64} (hD : (D.toBitVec.smod 64).toNat = d) (h : a < 2 ^ 62) : lN a >>> D = lN (a / 2 ^ d) := by
  have hd : a / 2 ^ d ≤ a := Nat.div_le_self _ _
  apply Int64.toInt_inj.mp
  have e : (lN a >>> D).toInt = (lN a).toInt >>> d := by
    rw [← hD]
    exact BitVec.toInt_sshiftRight ..
  rw [e, Int.shiftRight_eq_div_pow, pf_lI (by omega), pf_lI (by omega)]
  rfl
theorem fb_andL (a b : Nat) : lN a &&& lN b = lN (a &&& b) := by
  apply Int64.toBitVec_inj.1
  show BitVec.ofNat 64 a &&& BitVec.ofNat 64 b = BitVec.ofNat 64 (a &&& b)
  apply BitVec.eq_of_getLsbD_eq
  intro i hi
  simp [hi]
theorem fb_orL (a b : Nat) : lN a ||| lN b = lN (a ||| b) := by
  apply Int64.toBitVec_inj.1
  show BitVec.ofNat 64 a ||| BitVec.ofNat 64 b = BitVec.ofNat 64 (a ||| b)
  apply BitVec.eq_of_getLsbD_eq
  intro i hi
  simp [hi]
theorem zJ_n (n : Nat) : zJ (n : Int) = lN n := Int64.ofInt_eq_ofNat
theorem zJ_lN {z : Int} (h : 0 ≤ z) : zJ z = lN z.toNat := by rw [← zJ_n, Int.toNat_of_nonneg h]
theorem zJ_2i (x : Int) : (zJ x).toInt32 = zI x := Int64.toInt32_ofInt ..
section ZLongBit
variable {T : mTb} {ad : mA} {M : mM} {dp : Nat} {lim : Nat × Nat} {cal : mC} {Q : mZ} {pc : Nat} {L L' : mL} {h : mH} {zz : Nat × Nat} {r st : List Value}
theorem z_land {x y : Int} (hd : decode (mMc M) pc = .ok (.land, 1)) (h0 : 0 ≤ x) (h1 : 0 ≤ y) (k : mEv T ad M dp lim cal Q (pc + 1) L (.long (zJ (andZ x y)) :: r) h zz) : mEv T ad M dp lim cal Q pc L (.long (zJ y) :: .long (zJ x) :: r) h zz := by
  refine e_land hd ?_
  rw [zJ_lN h0, zJ_lN h1, fb_andL, ← zJ_n]
  exact k
theorem z_lsub {x y : Int} (hd : decode (mMc M) pc = .ok (.lsub, 1)) (k : mEv T ad M dp lim cal Q (pc + 1) L (.long (zJ (x - y)) :: r) h zz) : mEv T ad M dp lim cal Q pc L (.long (zJ y) :: .long (zJ x) :: r) h zz := e_lsub hd (by rw [zJ_sub]; exact k)
theorem z_lor {x y : Int} (hd : decode (mMc M) pc = .ok (.lor, 1)) (h0 : 0 ≤ x) (h1 : 0 ≤ y) (k : mEv T ad M dp lim cal Q (pc + 1) L (.long (zJ (orZ x y)) :: r) h zz) : mEv T ad M dp lim cal Q pc L (.long (zJ y) :: .long (zJ x) :: r) h zz := by
  refine e_lor hd ?_
  rw [zJ_lN h0, zJ_lN h1, fb_orL, ← zJ_n]
  exact k
theorem z_lshl {y : Int} (hd : decode (mMc M) pc = .ok (.lshl, 1)) (h0 : 0 ≤ y) (h1 : y < 64) (k : mEv T ad M dp lim cal Q (pc + 1) L (.long (zJ (shlZ 1 y)) :: r) h zz) : mEv T ad M dp lim cal Q pc L (.int (zI y) :: .long (zJ 1) :: r) h zz := by
  refine e_lshl hd ?_
  rw [zJ_lN (show (0 : Int) ≤ 1 by omega), zI_nI h0, wb_shl _ (by omega), ← zJ_n]
  exact k
theorem z_lshr {x y : Int} (hd : decode (mMc M) pc = .ok (.lshr, 1)) (h0 : 0 ≤ x) (h1 : x < 4611686018427387904) (h2 : 0 ≤ y) (h3 : y < 64) (k : mEv T ad M dp lim cal Q (pc + 1) L (.long (zJ (shrZ x y)) :: r) h zz) : mEv T ad M dp lim cal Q pc L (.int (zI y) :: .long (zJ x) :: r) h zz := by
  refine e_lshr hd ?_
  rw [zJ_lN h0, zI_nI h2, wb_c _ (by omega), pf_shr (d := y.toNat) (by rw [wb_tb, wb_sm _ (by omega), BitVec.toNat_ofNat]; omega) (by omega), ← zJ_n]
  exact k
theorem z_lushrK {x : Int} (n : Nat) (P : Int) (hd : decode (mMc M) pc = .ok (.lushr, 1)) (hn : n < 64) (hP : ((2 ^ n : Nat) : Int) = P) (h0 : 0 ≤ x) (h1 : x < 9223372036854775808) (k : mEv T ad M dp lim cal Q (pc + 1) L (.long (zJ (x / P)) :: r) h zz) : mEv T ad M dp lim cal Q pc L (.int (zI (n : Int)) :: .long (zJ x) :: r) h zz := by
  refine e_lushr hd ?_
  rw [zJ_lN h0, zI_nat n, wb_shr (by omega) hn, ← zJ_n, Int.natCast_ediv, Int.toNat_of_nonneg h0, hP]
  exact k
theorem z_l2i {x : Int} (hd : decode (mMc M) pc = .ok (.l2i, 1)) (k : mEv T ad M dp lim cal Q (pc + 1) L (.int (zI (x % 4294967296)) :: r) h zz) : mEv T ad M dp lim cal Q pc L (.long (zJ x) :: r) h zz := by
  refine e_l2i hd ?_
  rw [zJ_2i, ← zI_mod x]
  exact k
end ZLongBit
theorem shl_36 (k : Int) : 0 ≤ shlZ 1 k ∧ (k < 36 → shlZ 1 k < 68719476736) := by
  refine ⟨Int.natCast_nonneg _, fun q => ?_⟩
  unfold shlZ
  have := Nat.pow_le_pow_right (n := 2) (by omega) (show k.toNat ≤ 35 by omega)
  simp only [show (1 : Int).toNat = 1 from rfl, Nat.one_mul]; omega
theorem or_36 {a b : Int} (ha : 0 ≤ a ∧ a < 68719476736) (hb : 0 ≤ b ∧ b < 68719476736) : 0 ≤ orZ a b ∧ orZ a b < 68719476736 := by
  refine ⟨Int.natCast_nonneg _, ?_⟩
  have := Nat.or_lt_two_pow (n := 36) (x := a.toNat) (y := b.toNat) (by omega) (by omega)
  unfold orZ; omega
/-! bitCount by bytes -/
theorem and_by {a a1 a0 c c1 c0 : Nat} (ha : a = 256 * a1 + a0) (h0 : a0 < 256) (hc : c = 256 * c1 + c0) (k0 : c0 < 256) : a &&& c = 256 * (a1 &&& c1) + (a0 &&& c0) := by
  subst ha hc
  have hl : a0 &&& c0 < 256 := Nat.lt_of_le_of_lt Nat.and_le_left h0
  apply Nat.eq_of_testBit_eq
  intro i
  rw [show 256 * a1 + a0 = 2 ^ 8 * a1 + a0 by omega, show 256 * c1 + c0 = 2 ^ 8 * c1 + c0 by omega, show 256 * (a1 &&& c1) + (a0 &&& c0) = 2 ^ 8 * (a1 &&& c1) + (a0 &&& c0) by omega, Nat.testBit_and, Nat.testBit_two_pow_mul_add _ (by omega), Nat.testBit_two_pow_mul_add _ (by omega), Nat.testBit_two_pow_mul_add _ (by omega)]
  by_cases q : i < 8
  · rw [if_pos q, if_pos q, if_pos q, Nat.testBit_and]
  · rw [if_neg q, if_neg q, if_neg q, Nat.testBit_and]
def s1N (x m : Nat) : Nat := x - ((x / 2) &&& m)
def s2N (x m : Nat) : Nat := (x &&& m) + ((x / 4) &&& m)
def s3N (x m : Nat) : Nat := (x + x / 16) &&& m
def p8 (d : Nat) : Nat := d % 2 + d / 2 % 2 + d / 4 % 2 + d / 8 % 2 + d / 16 % 2 + d / 32 % 2 + d / 64 % 2 + d / 128 % 2
theorem s1_d : ∀ d, d < 256 → ∀ e, e < 2 → (128 * e + d / 2) &&& 85 = (d / 2) &&& 85 := by decide +kernel
theorem s1_l : ∀ d, d < 256 → (d / 2) &&& 85 ≤ d := by decide +kernel
theorem s2_d : ∀ d, d < 256 → ∀ e, e < 4 → (64 * e + d / 4) &&& 51 = (d / 4) &&& 51 := by decide +kernel
/-- the nibbles are 4 at most -/
def nb4 (d : Nat) : Prop := d % 16 ≤ 4 ∧ d / 16 ≤ 4
theorem s3_d : ∀ d, d < 256 → d % 16 ≤ 4 → d / 16 ≤ 4 → ∀ e, e < 5 → (d + d / 16 + 16 * e) &&& 15 = (d + d / 16) &&& 15 := by decide +kernel
theorem s_all : ∀ d, d < 256 → s1N d 85 < 256 ∧ s2N (s1N d 85) 51 < 256 ∧ s2N (s1N d 85) 51 % 16 ≤ 4 ∧ s2N (s1N d 85) 51 / 16 ≤ 4 ∧ s3N (s2N (s1N d 85) 51) 15 = p8 d ∧ p8 d ≤ 8 := by decide +kernel
theorem s1_s {y d m : Nat} (hd : d < 256) (hy : (y / 2) &&& m ≤ y) : s1N (256 * y + d) (256 * m + 85) = 256 * s1N y m + s1N d 85 ∧ ((256 * y + d) / 2) &&& (256 * m + 85) ≤ 256 * y + d := by
  have h : ((256 * y + d) / 2) &&& (256 * m + 85) = 256 * ((y / 2) &&& m) + ((d / 2) &&& 85) := by
    rw [and_by (a1 := y / 2) (a0 := 128 * (y % 2) + d / 2) (c1 := m) (c0 := 85) (by omega) (by omega) rfl (by omega), s1_d d hd _ (by omega)]
  have l := s1_l d hd
  unfold s1N
  rw [h]
  omega
theorem s2_s {y d m : Nat} (hd : d < 256) : s2N (256 * y + d) (256 * m + 51) = 256 * s2N y m + s2N d 51 := by
  unfold s2N
  rw [and_by (a := 256 * y + d) (a1 := y) (a0 := d) (c1 := m) (c0 := 51) rfl hd rfl (by omega), and_by (a := (256 * y + d) / 4) (a1 := y / 4) (a0 := 64 * (y % 4) + d / 4) (c1 := m) (c0 := 51) (by omega) (by omega) rfl (by omega), s2_d d hd _ (by omega)]
  omega
theorem s3_s {y d m : Nat} (hd : d < 256) (n1 : d % 16 ≤ 4) (n2 : d / 16 ≤ 4) (hy : y % 16 ≤ 4) : s3N (256 * y + d) (256 * m + 15) = 256 * s3N y m + s3N d 15 := by
  unfold s3N
  rw [and_by (a := 256 * y + d + (256 * y + d) / 16) (a1 := y + y / 16) (a0 := d + d / 16 + 16 * (y % 16)) (c1 := m) (c0 := 15) (by omega) (by omega) rfl (by omega), s3_d d hd n1 n2 _ (by omega)]
theorem bcN {d0 d1 d2 d3 d4 : Nat} (h0 : d0 < 256) (h1 : d1 < 256) (h2 : d2 < 256) (h3 : d3 < 256) (h4 : d4 < 256) : s1N (256 * (256 * (256 * (256 * d4 + d3) + d2) + d1) + d0) 366503875925 < 1099511627776 ∧ s2N (s1N (256 * (256 * (256 * (256 * d4 + d3) + d2) + d1) + d0) 366503875925) 219902325555 < 549755813888 ∧ s3N (s2N (s1N (256 * (256 * (256 * (256 * d4 + d3) + d2) + d1) + d0) 366503875925) 219902325555) 64677154575 = 256 * (256 * (256 * (256 * p8 d4 + p8 d3) + p8 d2) + p8 d1) + p8 d0 := by
  obtain ⟨a0, b0, c0, e0, f0, g0⟩ := s_all d0 h0
  obtain ⟨a1, b1, c1, e1, f1, g1⟩ := s_all d1 h1
  obtain ⟨a2, b2, c2, e2, f2, g2⟩ := s_all d2 h2
  obtain ⟨a3, b3, c3, e3, f3, g3⟩ := s_all d3 h3
  obtain ⟨a4, b4, c4, e4, f4, g4⟩ := s_all d4 h4
  have l4 := s1_l d4 h4
  obtain ⟨q3, l3⟩ := s1_s (y := d4) (m := 85) h3 l4
  obtain ⟨q2, l2⟩ := s1_s (y := 256 * d4 + d3) (m := 256 * 85 + 85) h2 l3
  obtain ⟨q1, l1⟩ := s1_s (y := 256 * (256 * d4 + d3) + d2) (m := 256 * (256 * 85 + 85) + 85) h1 l2
  obtain ⟨q0, -⟩ := s1_s (y := 256 * (256 * (256 * d4 + d3) + d2) + d1) (m := 256 * (256 * (256 * 85 + 85) + 85) + 85) h0 l1
  have m5 : (366503875925 : Nat) = 256 * (256 * (256 * (256 * 85 + 85) + 85) + 85) + 85 := rfl
  have m3 : (219902325555 : Nat) = 256 * (256 * (256 * (256 * 51 + 51) + 51) + 51) + 51 := rfl
  have mf : (64677154575 : Nat) = 256 * (256 * (256 * (256 * 15 + 15) + 15) + 15) + 15 := rfl
  have I1 : s1N (256 * (256 * (256 * (256 * d4 + d3) + d2) + d1) + d0) 366503875925 = 256 * (256 * (256 * (256 * s1N d4 85 + s1N d3 85) + s1N d2 85) + s1N d1 85) + s1N d0 85 := by rw [m5, q0, q1, q2, q3]
  have I2 : s2N (256 * (256 * (256 * (256 * s1N d4 85 + s1N d3 85) + s1N d2 85) + s1N d1 85) + s1N d0 85) 219902325555 = 256 * (256 * (256 * (256 * s2N (s1N d4 85) 51 + s2N (s1N d3 85) 51) + s2N (s1N d2 85) 51) + s2N (s1N d1 85) 51) + s2N (s1N d0 85) 51 := by rw [m3, s2_s a0, s2_s a1, s2_s a2, s2_s a3]
  rw [I1, I2]
  generalize s2N (s1N d0 85) 51 = z0 at *
  generalize s2N (s1N d1 85) 51 = z1 at *
  generalize s2N (s1N d2 85) 51 = z2 at *
  generalize s2N (s1N d3 85) 51 = z3 at *
  generalize s2N (s1N d4 85) 51 = z4 at *
  refine ⟨by clear I1 I2 q0 q1 q2 q3 l1 l2 l3 l4 m5 m3 mf; omega, by clear I1 I2 q0 q1 q2 q3 l1 l2 l3 l4 m5 m3 mf; omega, ?_⟩
  rw [mf, s3_s b0 c0 e0 (by omega), s3_s b1 c1 e1 (by omega), s3_s b2 c2 e2 (by omega), s3_s b3 c3 e3 (by omega), f0, f1, f2, f3, f4]
theorem and_lo {a m : Nat} (c : Nat) (h : a < 1099511627776) (hm : m < 1099511627776) : a &&& (1099511627776 * c + m) = a &&& m := by
  apply Nat.eq_of_testBit_eq
  intro i
  rw [Nat.testBit_and, Nat.testBit_and, show 1099511627776 * c + m = 2 ^ 40 * c + m by omega, Nat.testBit_two_pow_mul_add _ (by omega)]
  by_cases q : i < 40
  · rw [if_pos q]
  · rw [Nat.testBit_lt_two_pow (x := a) (i := i) (Nat.lt_of_lt_of_le h (by have := Nat.pow_le_pow_right (n := 2) (by omega) (show 40 ≤ i by omega); omega)), Bool.false_and, Bool.false_and]
/-- how many bits of 40 -/
def pcZ (x : Int) : Int := sumZ (fun k => bZ (hasZ x k)) 36
theorem pcZ_b (x : Int) : 0 ≤ pcZ x ∧ pcZ x ≤ 36 := by
  have := sumZ_b (f := fun k => bZ (hasZ x k)) (lo := 0) (hi := 1) (n := 36) (fun i _ _ => ⟨bZ_lo _, bZ_hi _⟩)
  unfold pcZ; omega
theorem bt_d {n j : Nat} (k : Nat) : bZ (hasZ (n : Int) ((8 * k + j : Nat) : Int)) = ((n / 2 ^ (8 * k) / 2 ^ j % 2 : Nat) : Int) := by
  unfold bZ hasZ
  rw [Int.toNat_natCast, Int.toNat_natCast, Nat.testBit, Nat.shiftRight_eq_div_pow, Nat.and_comm, Nat.and_one_is_mod, Nat.pow_add, ← Nat.div_div_eq_div_mul]
  simp only [bne_iff_ne, ne_eq]
  split <;> omega
theorem by8s (n k : Nat) : sumZ (fun i => bZ (hasZ (n : Int) i)) (8 * k + 8) = sumZ (fun i => bZ (hasZ (n : Int) i)) (8 * k) + ((p8 (n / 2 ^ (8 * k) % 256) : Nat) : Int) := by
  have e : sumZ (fun i => bZ (hasZ (n : Int) i)) (8 * k + 8) = sumZ (fun i => bZ (hasZ (n : Int) i)) (8 * k) + bZ (hasZ (n : Int) ((8 * k + 0 : Nat) : Int)) + bZ (hasZ (n : Int) ((8 * k + 1 : Nat) : Int)) + bZ (hasZ (n : Int) ((8 * k + 2 : Nat) : Int)) + bZ (hasZ (n : Int) ((8 * k + 3 : Nat) : Int)) + bZ (hasZ (n : Int) ((8 * k + 4 : Nat) : Int)) + bZ (hasZ (n : Int) ((8 * k + 5 : Nat) : Int)) + bZ (hasZ (n : Int) ((8 * k + 6 : Nat) : Int)) + bZ (hasZ (n : Int) ((8 * k + 7 : Nat) : Int)) := rfl
  rw [e, bt_d, bt_d, bt_d, bt_d, bt_d, bt_d, bt_d, bt_d]
  generalize n / 2 ^ (8 * k) = y
  unfold p8
  simp only [Nat.pow_zero, Nat.pow_succ, Nat.one_mul, Nat.reduceMul, Nat.div_one]
  omega
theorem pc40 {n : Nat} (h : n < 68719476736) : pcZ (n : Int) = ((p8 (n % 256) + p8 (n / 256 % 256) + p8 (n / 65536 % 256) + p8 (n / 16777216 % 256) + p8 (n / 4294967296 % 256) : Nat) : Int) := by
  have s0 := by8s n 0
  have s1 := by8s n 1
  have s2 := by8s n 2
  have s3 := by8s n 3
  have s4 := by8s n 4
  have z : ∀ j : Nat, 36 ≤ j → bZ (hasZ (n : Int) (j : Int)) = 0 := fun j hj => bZ_0 (by
    unfold hasZ
    rw [Int.toNat_natCast, Int.toNat_natCast, Nat.testBit_lt_two_pow (Nat.lt_of_lt_of_le h (by have := Nat.pow_le_pow_right (n := 2) (by omega) hj; omega))]
    exact Bool.false_ne_true)
  have e : sumZ (fun i => bZ (hasZ (n : Int) i)) (8 * 4 + 8) = pcZ (n : Int) + bZ (hasZ (n : Int) ((36 : Nat) : Int)) + bZ (hasZ (n : Int) ((37 : Nat) : Int)) + bZ (hasZ (n : Int) ((38 : Nat) : Int)) + bZ (hasZ (n : Int) ((39 : Nat) : Int)) := rfl
  rw [z 36 (by omega), z 37 (by omega), z 38 (by omega), z 39 (by omega)] at e
  have e0 : sumZ (fun i => bZ (hasZ (n : Int) i)) (8 * 0) = 0 := rfl
  rw [e0] at s0
  simp only [Nat.reduceMul, Nat.reduceAdd, Nat.reducePow, Nat.div_one] at s0 s1 s2 s3 s4 e
  omega
theorem p8_b (d : Nat) : p8 d ≤ 8 := by unfold p8; omega
theorem bcZ {x : Int} (h0 : 0 ≤ x) (h1 : x < 68719476736) {i1 i2 i3 i4 i5 i6 : Int} (e1 : i1 = x - andZ (x / 2) 6148914691236517205) (e2 : i2 = andZ i1 3689348814741910323 + andZ (i1 / 4) 3689348814741910323) (e3 : i3 = andZ (i2 + i2 / 16) 1085102592571150095) (e4 : i4 = i3 + i3 / 256) (e5 : i5 = i4 + i4 / 65536) (e6 : i6 = i5 + i5 / 4294967296) : 0 ≤ i6 % 4294967296 ∧ i6 % 4294967296 < 2147483648 ∧ andZ (i6 % 4294967296) 127 = pcZ x := by
  obtain ⟨n, rfl⟩ := Int.eq_ofNat_of_zero_le h0
  have hn : n < 68719476736 := by omega
  have hx : n = 256 * (256 * (256 * (256 * (n / 4294967296 % 256) + n / 16777216 % 256) + n / 65536 % 256) + n / 256 % 256) + n % 256 := by omega
  obtain ⟨w1, w2, w3⟩ := bcN (d0 := n % 256) (d1 := n / 256 % 256) (d2 := n / 65536 % 256) (d3 := n / 16777216 % 256) (d4 := n / 4294967296 % 256) (by omega) (by omega) (by omega) (by omega) (by omega)
  rw [← hx] at w1 w2 w3
  have r1 : i1 = (s1N n 366503875925 : Int) := by
    rw [e1]
    unfold andZ s1N
    have l : n / 2 &&& 366503875925 ≤ n / 2 := Nat.and_le_left
    rw [show ((n : Int) / 2).toNat = n / 2 by omega, show (6148914691236517205 : Int).toNat = 1099511627776 * 5592405 + 366503875925 from rfl, and_lo _ (by omega) (by omega)]
    omega
  have r2 : i2 = (s2N (s1N n 366503875925) 219902325555 : Int) := by
    rw [e2, r1]
    generalize s1N n 366503875925 = a at *
    unfold andZ s2N
    rw [show ((a : Int) / 4).toNat = a / 4 by omega, Int.toNat_natCast, show (3689348814741910323 : Int).toNat = 1099511627776 * 3355443 + 219902325555 from rfl, and_lo _ (by omega) (by omega), and_lo _ (by omega) (by omega)]
    omega
  have r3 : i3 = (s3N (s2N (s1N n 366503875925) 219902325555) 64677154575 : Int) := by
    rw [e3, r2]
    generalize s2N (s1N n 366503875925) 219902325555 = a at *
    unfold andZ s3N
    rw [show ((a : Int) + (a : Int) / 16).toNat = a + a / 16 by omega, show (1085102592571150095 : Int).toNat = 1099511627776 * 986895 + 64677154575 from rfl, and_lo _ (by omega) (by omega)]
  rw [w3] at r3
  rw [pc40 hn]
  have b0 := p8_b (n % 256)
  have b1 := p8_b (n / 256 % 256)
  have b2 := p8_b (n / 65536 % 256)
  have b3 := p8_b (n / 16777216 % 256)
  have b4 := p8_b (n / 4294967296 % 256)
  clear e1 e2 e3 r1 r2 w1 w2 w3 hx
  generalize p8 (n % 256) = p0 at *
  generalize p8 (n / 256 % 256) = p1 at *
  generalize p8 (n / 65536 % 256) = p2 at *
  generalize p8 (n / 16777216 % 256) = p3 at *
  generalize p8 (n / 4294967296 % 256) = p4 at *
  have q4 : i4 = 256 * (256 * (256 * (256 * p4 + (p3 + p4)) + (p2 + p3)) + (p1 + p2)) + (p0 + p1) := by omega
  have q5 : i5 = 256 * (256 * (256 * (256 * p4 + (p3 + p4)) + (p2 + p3 + p4)) + (p1 + p2 + p3 + p4)) + (p0 + p1 + p2 + p3) := by omega
  have q6 : i6 = 256 * (256 * (256 * (256 * p4 + (p3 + p4)) + (p2 + p3 + p4)) + (p1 + p2 + p3 + p4)) + (p0 + p1 + p2 + p3 + p4) := by omega
  have q7 : i6 % 4294967296 = 256 * (256 * (256 * (p3 + p4) + (p2 + p3 + p4)) + (p1 + p2 + p3 + p4)) + (p0 + p1 + p2 + p3 + p4) := by omega
  refine ⟨by omega, by omega, ?_⟩
  unfold andZ
  rw [show (127 : Int).toNat = 2 ^ 7 - 1 from rfl, Nat.and_two_pow_sub_one_eq_mod]
  omega
set_option maxHeartbeats 2000000 in
theorem zp_J13_bitCount_95d88 {ad : mA} {dd : Nat} {h : mH} {Q : mQ}    (x : Int) (p1 : 0 ≤ x ∧ x < 68719476736) (kq : Q (some (.int (zI (pcZ x)))) h) : mCal TB0 ad (dd + 1) M_J13_bitCount_95d88 [.long (zJ x)] h 0 0 Q := by
  refine ⟨Nat.le_of_ble_eq_true rfl, ?_⟩
  show mEv TB0 ad M_J13_bitCount_95d88 (dd + 1) (0, 0) (mCal TB0 ad (dd + 0)) (fun v h' z => z.1 = 0 ∧ Q v h') 0 [some (.long (zJ x)), none] [] h (0, 0)
  refine e_lload_n dJ13_bitCount_95d88_0 rfl ?_
  refine e_lload_n dJ13_bitCount_95d88_1 rfl ?_
  refine z_iconst (1) dJ13_bitCount_95d88_2 rfl ?_
  refine z_lushrK 1 2 dJ13_bitCount_95d88_3 (by decide) (by decide) (by omega) (by omega) ?_
  refine z_ldc2 (6148914691236517205) dJ13_bitCount_95d88_4 tl_17_314 rfl ?_
  refine z_land dJ13_bitCount_95d88_7 (by omega) (by omega) ?_
  have y1 := andZ_b (x / 2) 6148914691236517205
  refine z_lsub dJ13_bitCount_95d88_8 ?_
  refine e_lstore_n (L' := [_, _]) dJ13_bitCount_95d88_9 (Nat.le_of_ble_eq_true rfl) rfl ?_
  refine e_lload_n dJ13_bitCount_95d88_10 rfl ?_
  refine z_ldc2 (3689348814741910323) dJ13_bitCount_95d88_11 tl_17_316 rfl ?_
  refine z_land dJ13_bitCount_95d88_14 (by omega) (by omega) ?_
  have y2 := andZ_b (x - (andZ (x / 2) 6148914691236517205)) 3689348814741910323
  refine e_lload_n dJ13_bitCount_95d88_15 rfl ?_
  refine z_iconst (2) dJ13_bitCount_95d88_16 rfl ?_
  refine z_lushrK 2 4 dJ13_bitCount_95d88_17 (by decide) (by decide) (by omega) (by omega) ?_
  refine z_ldc2 (3689348814741910323) dJ13_bitCount_95d88_18 tl_17_316 rfl ?_
  refine z_land dJ13_bitCount_95d88_21 (by omega) (by omega) ?_
  have y3 := andZ_b ((x - (andZ (x / 2) 6148914691236517205)) / 4) 3689348814741910323
  refine z_ladd dJ13_bitCount_95d88_22 ?_
  refine e_lstore_n (L' := [_, _]) dJ13_bitCount_95d88_23 (Nat.le_of_ble_eq_true rfl) rfl ?_
  refine e_lload_n dJ13_bitCount_95d88_24 rfl ?_
  refine e_lload_n dJ13_bitCount_95d88_25 rfl ?_
  refine z_iconst (4) dJ13_bitCount_95d88_26 rfl ?_
  refine z_lushrK 4 16 dJ13_bitCount_95d88_27 (by decide) (by decide) (by omega) (by omega) ?_
  refine z_ladd dJ13_bitCount_95d88_28 ?_
  refine z_ldc2 (1085102592571150095) dJ13_bitCount_95d88_29 tl_17_318 rfl ?_
  refine z_land dJ13_bitCount_95d88_32 (by omega) (by omega) ?_
  have y4 := andZ_b (((andZ (x - (andZ (x / 2) 6148914691236517205)) 3689348814741910323) + (andZ ((x - (andZ (x / 2) 6148914691236517205)) / 4) 3689348814741910323)) + (((andZ (x - (andZ (x / 2) 6148914691236517205)) 3689348814741910323) + (andZ ((x - (andZ (x / 2) 6148914691236517205)) / 4) 3689348814741910323)) / 16)) 1085102592571150095
  refine e_lstore_n (L' := [_, _]) dJ13_bitCount_95d88_33 (Nat.le_of_ble_eq_true rfl) rfl ?_
  refine e_lload_n dJ13_bitCount_95d88_34 rfl ?_
  refine e_lload_n dJ13_bitCount_95d88_35 rfl ?_
  refine z_bipush (8) dJ13_bitCount_95d88_36 rfl ?_
  refine z_lushrK 8 256 dJ13_bitCount_95d88_38 (by decide) (by decide) (by omega) (by omega) ?_
  refine z_ladd dJ13_bitCount_95d88_39 ?_
  refine e_lstore_n (L' := [_, _]) dJ13_bitCount_95d88_40 (Nat.le_of_ble_eq_true rfl) rfl ?_
  refine e_lload_n dJ13_bitCount_95d88_41 rfl ?_
  refine e_lload_n dJ13_bitCount_95d88_42 rfl ?_
  refine z_bipush (16) dJ13_bitCount_95d88_43 rfl ?_
  refine z_lushrK 16 65536 dJ13_bitCount_95d88_45 (by decide) (by decide) (by omega) (by omega) ?_
  refine z_ladd dJ13_bitCount_95d88_46 ?_
  refine e_lstore_n (L' := [_, _]) dJ13_bitCount_95d88_47 (Nat.le_of_ble_eq_true rfl) rfl ?_
  refine e_lload_n dJ13_bitCount_95d88_48 rfl ?_
  refine e_lload_n dJ13_bitCount_95d88_49 rfl ?_
  refine z_bipush (32) dJ13_bitCount_95d88_50 rfl ?_
  refine z_lushrK 32 4294967296 dJ13_bitCount_95d88_52 (by decide) (by decide) (by omega) (by omega) ?_
  refine z_ladd dJ13_bitCount_95d88_53 ?_
  refine e_lstore_n (L' := [_, _]) dJ13_bitCount_95d88_54 (Nat.le_of_ble_eq_true rfl) rfl ?_
  refine e_lload_n dJ13_bitCount_95d88_55 rfl ?_
  have bc := bcZ p1.1 p1.2 rfl rfl rfl rfl rfl (show ((((andZ (((andZ (x - (andZ (x / 2) 6148914691236517205)) 3689348814741910323) + (andZ ((x - (andZ (x / 2) 6148914691236517205)) / 4) 3689348814741910323)) + (((andZ (x - (andZ (x / 2) 6148914691236517205)) 3689348814741910323) + (andZ ((x - (andZ (x / 2) 6148914691236517205)) / 4) 3689348814741910323)) / 16)) 1085102592571150095) + ((andZ (((andZ (x - (andZ (x / 2) 6148914691236517205)) 3689348814741910323) + (andZ ((x - (andZ (x / 2) 6148914691236517205)) / 4) 3689348814741910323)) + (((andZ (x - (andZ (x / 2) 6148914691236517205)) 3689348814741910323) + (andZ ((x - (andZ (x / 2) 6148914691236517205)) / 4) 3689348814741910323)) / 16)) 1085102592571150095) / 256)) + (((andZ (((andZ (x - (andZ (x / 2) 6148914691236517205)) 3689348814741910323) + (andZ ((x - (andZ (x / 2) 6148914691236517205)) / 4) 3689348814741910323)) + (((andZ (x - (andZ (x / 2) 6148914691236517205)) 3689348814741910323) + (andZ ((x - (andZ (x / 2) 6148914691236517205)) / 4) 3689348814741910323)) / 16)) 1085102592571150095) + ((andZ (((andZ (x - (andZ (x / 2) 6148914691236517205)) 3689348814741910323) + (andZ ((x - (andZ (x / 2) 6148914691236517205)) / 4) 3689348814741910323)) + (((andZ (x - (andZ (x / 2) 6148914691236517205)) 3689348814741910323) + (andZ ((x - (andZ (x / 2) 6148914691236517205)) / 4) 3689348814741910323)) / 16)) 1085102592571150095) / 256)) / 65536)) + ((((andZ (((andZ (x - (andZ (x / 2) 6148914691236517205)) 3689348814741910323) + (andZ ((x - (andZ (x / 2) 6148914691236517205)) / 4) 3689348814741910323)) + (((andZ (x - (andZ (x / 2) 6148914691236517205)) 3689348814741910323) + (andZ ((x - (andZ (x / 2) 6148914691236517205)) / 4) 3689348814741910323)) / 16)) 1085102592571150095) + ((andZ (((andZ (x - (andZ (x / 2) 6148914691236517205)) 3689348814741910323) + (andZ ((x - (andZ (x / 2) 6148914691236517205)) / 4) 3689348814741910323)) + (((andZ (x - (andZ (x / 2) 6148914691236517205)) 3689348814741910323) + (andZ ((x - (andZ (x / 2) 6148914691236517205)) / 4) 3689348814741910323)) / 16)) 1085102592571150095) / 256)) + (((andZ (((andZ (x - (andZ (x / 2) 6148914691236517205)) 3689348814741910323) + (andZ ((x - (andZ (x / 2) 6148914691236517205)) / 4) 3689348814741910323)) + (((andZ (x - (andZ (x / 2) 6148914691236517205)) 3689348814741910323) + (andZ ((x - (andZ (x / 2) 6148914691236517205)) / 4) 3689348814741910323)) / 16)) 1085102592571150095) + ((andZ (((andZ (x - (andZ (x / 2) 6148914691236517205)) 3689348814741910323) + (andZ ((x - (andZ (x / 2) 6148914691236517205)) / 4) 3689348814741910323)) + (((andZ (x - (andZ (x / 2) 6148914691236517205)) 3689348814741910323) + (andZ ((x - (andZ (x / 2) 6148914691236517205)) / 4) 3689348814741910323)) / 16)) 1085102592571150095) / 256)) / 65536)) / 4294967296)) = _ from rfl)
  refine z_l2i dJ13_bitCount_95d88_56 ?_
  refine z_bipush (127) dJ13_bitCount_95d88_57 rfl ?_
  refine z_iand dJ13_bitCount_95d88_59 (by omega) (by omega) (by omega) (by omega) ?_
  have y5 := andZ_b (((((andZ (((andZ (x - (andZ (x / 2) 6148914691236517205)) 3689348814741910323) + (andZ ((x - (andZ (x / 2) 6148914691236517205)) / 4) 3689348814741910323)) + (((andZ (x - (andZ (x / 2) 6148914691236517205)) 3689348814741910323) + (andZ ((x - (andZ (x / 2) 6148914691236517205)) / 4) 3689348814741910323)) / 16)) 1085102592571150095) + ((andZ (((andZ (x - (andZ (x / 2) 6148914691236517205)) 3689348814741910323) + (andZ ((x - (andZ (x / 2) 6148914691236517205)) / 4) 3689348814741910323)) + (((andZ (x - (andZ (x / 2) 6148914691236517205)) 3689348814741910323) + (andZ ((x - (andZ (x / 2) 6148914691236517205)) / 4) 3689348814741910323)) / 16)) 1085102592571150095) / 256)) + (((andZ (((andZ (x - (andZ (x / 2) 6148914691236517205)) 3689348814741910323) + (andZ ((x - (andZ (x / 2) 6148914691236517205)) / 4) 3689348814741910323)) + (((andZ (x - (andZ (x / 2) 6148914691236517205)) 3689348814741910323) + (andZ ((x - (andZ (x / 2) 6148914691236517205)) / 4) 3689348814741910323)) / 16)) 1085102592571150095) + ((andZ (((andZ (x - (andZ (x / 2) 6148914691236517205)) 3689348814741910323) + (andZ ((x - (andZ (x / 2) 6148914691236517205)) / 4) 3689348814741910323)) + (((andZ (x - (andZ (x / 2) 6148914691236517205)) 3689348814741910323) + (andZ ((x - (andZ (x / 2) 6148914691236517205)) / 4) 3689348814741910323)) / 16)) 1085102592571150095) / 256)) / 65536)) + ((((andZ (((andZ (x - (andZ (x / 2) 6148914691236517205)) 3689348814741910323) + (andZ ((x - (andZ (x / 2) 6148914691236517205)) / 4) 3689348814741910323)) + (((andZ (x - (andZ (x / 2) 6148914691236517205)) 3689348814741910323) + (andZ ((x - (andZ (x / 2) 6148914691236517205)) / 4) 3689348814741910323)) / 16)) 1085102592571150095) + ((andZ (((andZ (x - (andZ (x / 2) 6148914691236517205)) 3689348814741910323) + (andZ ((x - (andZ (x / 2) 6148914691236517205)) / 4) 3689348814741910323)) + (((andZ (x - (andZ (x / 2) 6148914691236517205)) 3689348814741910323) + (andZ ((x - (andZ (x / 2) 6148914691236517205)) / 4) 3689348814741910323)) / 16)) 1085102592571150095) / 256)) + (((andZ (((andZ (x - (andZ (x / 2) 6148914691236517205)) 3689348814741910323) + (andZ ((x - (andZ (x / 2) 6148914691236517205)) / 4) 3689348814741910323)) + (((andZ (x - (andZ (x / 2) 6148914691236517205)) 3689348814741910323) + (andZ ((x - (andZ (x / 2) 6148914691236517205)) / 4) 3689348814741910323)) / 16)) 1085102592571150095) + ((andZ (((andZ (x - (andZ (x / 2) 6148914691236517205)) 3689348814741910323) + (andZ ((x - (andZ (x / 2) 6148914691236517205)) / 4) 3689348814741910323)) + (((andZ (x - (andZ (x / 2) 6148914691236517205)) 3689348814741910323) + (andZ ((x - (andZ (x / 2) 6148914691236517205)) / 4) 3689348814741910323)) / 16)) 1085102592571150095) / 256)) / 65536)) / 4294967296)) % 4294967296) 127
  refine z_iret dJ13_bitCount_95d88_60 rfl ⟨rfl, ?_⟩
  refine z_q kq ?_
  exact bc.2.2
