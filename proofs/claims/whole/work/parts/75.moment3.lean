/-! MOMENT of the class -/
theorem dX3_weighMoment_0 : decode cX3_weighMoment 0 = .ok (.aload_n 0, 1) := by decide +kernel
theorem dX3_weighMoment_1 : decode cX3_weighMoment 1 = .ok (.lconst 1, 1) := by decide +kernel
theorem dX3_weighMoment_2 : decode cX3_weighMoment 2 = .ok (.putfield 19, 3) := by decide +kernel
theorem dX3_weighMoment_5 : decode cX3_weighMoment 5 = .ok (.aload_n 0, 1) := by decide +kernel
theorem dX3_weighMoment_6 : decode cX3_weighMoment 6 = .ok (.iload_n 2, 1) := by decide +kernel
theorem dX3_weighMoment_7 : decode cX3_weighMoment 7 = .ok (.i2l, 1) := by decide +kernel
theorem dX3_weighMoment_8 : decode cX3_weighMoment 8 = .ok (.bipush 9, 2) := by decide +kernel
theorem dX3_weighMoment_10 : decode cX3_weighMoment 10 = .ok (.iload_n 1, 1) := by decide +kernel
theorem dX3_weighMoment_11 : decode cX3_weighMoment 11 = .ok (.iload_n 3, 1) := by decide +kernel
theorem dX3_weighMoment_12 : decode cX3_weighMoment 12 = .ok (.iadd, 1) := by decide +kernel
theorem dX3_weighMoment_13 : decode cX3_weighMoment 13 = .ok (.invokestatic 45, 3) := by decide +kernel
theorem dX3_weighMoment_16 : decode cX3_weighMoment 16 = .ok (.iconst 1, 1) := by decide +kernel
theorem dX3_weighMoment_17 : decode cX3_weighMoment 17 = .ok (.iadd, 1) := by decide +kernel
theorem dX3_weighMoment_18 : decode cX3_weighMoment 18 = .ok (.i2l, 1) := by decide +kernel
theorem dX3_weighMoment_19 : decode cX3_weighMoment 19 = .ok (.lmul, 1) := by decide +kernel
theorem dX3_weighMoment_20 : decode cX3_weighMoment 20 = .ok (.putfield 15, 3) := by decide +kernel
theorem dX3_weighMoment_23 : decode cX3_weighMoment 23 = .ok (.aload_n 0, 1) := by decide +kernel
theorem dX3_weighMoment_24 : decode cX3_weighMoment 24 = .ok (.iconst 1, 1) := by decide +kernel
theorem dX3_weighMoment_25 : decode cX3_weighMoment 25 = .ok (.putfield 22, 3) := by decide +kernel
theorem dX3_weighMoment_28 : decode cX3_weighMoment 28 = .ok (.iload_n 3, 1) := by decide +kernel
theorem dX3_weighMoment_29 : decode cX3_weighMoment 29 = .ok (.iconst 1, 1) := by decide +kernel
theorem dX3_weighMoment_30 : decode cX3_weighMoment 30 = .ok (.isub, 1) := by decide +kernel
theorem dX3_weighMoment_31 : decode cX3_weighMoment 31 = .ok (.istore 4, 2) := by decide +kernel
theorem dX3_weighMoment_33 : decode cX3_weighMoment 33 = .ok (.iload 4, 2) := by decide +kernel
theorem dX3_weighMoment_35 : decode cX3_weighMoment 35 = .ok (.ifCond .lt 87, 3) := by decide +kernel
theorem dX3_weighMoment_38 : decode cX3_weighMoment 38 = .ok (.bipush 9, 2) := by decide +kernel
theorem dX3_weighMoment_40 : decode cX3_weighMoment 40 = .ok (.iload_n 1, 1) := by decide +kernel
theorem dX3_weighMoment_41 : decode cX3_weighMoment 41 = .ok (.iload 4, 2) := by decide +kernel
theorem dX3_weighMoment_43 : decode cX3_weighMoment 43 = .ok (.iadd, 1) := by decide +kernel
theorem dX3_weighMoment_44 : decode cX3_weighMoment 44 = .ok (.invokestatic 45, 3) := by decide +kernel
theorem dX3_weighMoment_47 : decode cX3_weighMoment 47 = .ok (.istore 5, 2) := by decide +kernel
theorem dX3_weighMoment_49 : decode cX3_weighMoment 49 = .ok (.aload_n 0, 1) := by decide +kernel
theorem dX3_weighMoment_50 : decode cX3_weighMoment 50 = .ok (.dup, 1) := by decide +kernel
theorem dX3_weighMoment_51 : decode cX3_weighMoment 51 = .ok (.getfield 19, 3) := by decide +kernel
theorem dX3_weighMoment_54 : decode cX3_weighMoment 54 = .ok (.ldc2_w 57, 3) := by decide +kernel
theorem dX3_weighMoment_57 : decode cX3_weighMoment 57 = .ok (.lmul, 1) := by decide +kernel
theorem dX3_weighMoment_58 : decode cX3_weighMoment 58 = .ok (.putfield 19, 3) := by decide +kernel
theorem dX3_weighMoment_61 : decode cX3_weighMoment 61 = .ok (.iload_n 2, 1) := by decide +kernel
theorem dX3_weighMoment_62 : decode cX3_weighMoment 62 = .ok (.iload 5, 2) := by decide +kernel
theorem dX3_weighMoment_64 : decode cX3_weighMoment 64 = .ok (.iconst 1, 1) := by decide +kernel
theorem dX3_weighMoment_65 : decode cX3_weighMoment 65 = .ok (.iadd, 1) := by decide +kernel
theorem dX3_weighMoment_66 : decode cX3_weighMoment 66 = .ok (.imul, 1) := by decide +kernel
theorem dX3_weighMoment_67 : decode cX3_weighMoment 67 = .ok (.i2l, 1) := by decide +kernel
theorem dX3_weighMoment_68 : decode cX3_weighMoment 68 = .ok (.aload_n 0, 1) := by decide +kernel
theorem dX3_weighMoment_69 : decode cX3_weighMoment 69 = .ok (.getfield 19, 3) := by decide +kernel
theorem dX3_weighMoment_72 : decode cX3_weighMoment 72 = .ok (.lmul, 1) := by decide +kernel
theorem dX3_weighMoment_73 : decode cX3_weighMoment 73 = .ok (.lstore 6, 2) := by decide +kernel
theorem dX3_weighMoment_75 : decode cX3_weighMoment 75 = .ok (.bipush 10, 2) := by decide +kernel
theorem dX3_weighMoment_77 : decode cX3_weighMoment 77 = .ok (.iload 5, 2) := by decide +kernel
theorem dX3_weighMoment_79 : decode cX3_weighMoment 79 = .ok (.isub, 1) := by decide +kernel
theorem dX3_weighMoment_80 : decode cX3_weighMoment 80 = .ok (.i2l, 1) := by decide +kernel
theorem dX3_weighMoment_81 : decode cX3_weighMoment 81 = .ok (.aload_n 0, 1) := by decide +kernel
theorem dX3_weighMoment_82 : decode cX3_weighMoment 82 = .ok (.getfield 15, 3) := by decide +kernel
theorem dX3_weighMoment_85 : decode cX3_weighMoment 85 = .ok (.lmul, 1) := by decide +kernel
theorem dX3_weighMoment_86 : decode cX3_weighMoment 86 = .ok (.lstore 8, 2) := by decide +kernel
theorem dX3_weighMoment_88 : decode cX3_weighMoment 88 = .ok (.aload_n 0, 1) := by decide +kernel
theorem dX3_weighMoment_89 : decode cX3_weighMoment 89 = .ok (.lload 6, 2) := by decide +kernel
theorem dX3_weighMoment_91 : decode cX3_weighMoment 91 = .ok (.lload 8, 2) := by decide +kernel
theorem dX3_weighMoment_93 : decode cX3_weighMoment 93 = .ok (.lcmp, 1) := by decide +kernel
theorem dX3_weighMoment_94 : decode cX3_weighMoment 94 = .ok (.ifCond .lt 7, 3) := by decide +kernel
theorem dX3_weighMoment_97 : decode cX3_weighMoment 97 = .ok (.iconst 1, 1) := by decide +kernel
theorem dX3_weighMoment_98 : decode cX3_weighMoment 98 = .ok (.goto 4, 3) := by decide +kernel
theorem dX3_weighMoment_101 : decode cX3_weighMoment 101 = .ok (.iconst 0, 1) := by decide +kernel
theorem dX3_weighMoment_102 : decode cX3_weighMoment 102 = .ok (.putfield 22, 3) := by decide +kernel
theorem dX3_weighMoment_105 : decode cX3_weighMoment 105 = .ok (.aload_n 0, 1) := by decide +kernel
theorem dX3_weighMoment_106 : decode cX3_weighMoment 106 = .ok (.lload 6, 2) := by decide +kernel
theorem dX3_weighMoment_108 : decode cX3_weighMoment 108 = .ok (.lload 8, 2) := by decide +kernel
theorem dX3_weighMoment_110 : decode cX3_weighMoment 110 = .ok (.invokestatic 59, 3) := by decide +kernel
theorem dX3_weighMoment_113 : decode cX3_weighMoment 113 = .ok (.putfield 15, 3) := by decide +kernel
theorem dX3_weighMoment_116 : decode cX3_weighMoment 116 = .ok (.iinc 4 (-1), 3) := by decide +kernel
theorem dX3_weighMoment_119 : decode cX3_weighMoment 119 = .ok (.goto (-86), 3) := by decide +kernel
theorem dX3_weighMoment_122 : decode cX3_weighMoment 122 = .ok (.return_, 1) := by decide +kernel
theorem dX11_moment_0 : decode cX11_moment 0 = .ok (.iload_n 1, 1) := by decide +kernel
theorem dX11_moment_1 : decode cX11_moment 1 = .ok (.ifCond .lt 40, 3) := by decide +kernel
theorem dX11_moment_4 : decode cX11_moment 4 = .ok (.iload_n 1, 1) := by decide +kernel
theorem dX11_moment_5 : decode cX11_moment 5 = .ok (.bipush 9, 2) := by decide +kernel
theorem dX11_moment_7 : decode cX11_moment 7 = .ok (.if_icmp .gt 34, 3) := by decide +kernel
theorem dX11_moment_10 : decode cX11_moment 10 = .ok (.iload_n 2, 1) := by decide +kernel
theorem dX11_moment_11 : decode cX11_moment 11 = .ok (.ifCond .lt 30, 3) := by decide +kernel
theorem dX11_moment_14 : decode cX11_moment 14 = .ok (.iload_n 2, 1) := by decide +kernel
theorem dX11_moment_15 : decode cX11_moment 15 = .ok (.bipush 9, 2) := by decide +kernel
theorem dX11_moment_17 : decode cX11_moment 17 = .ok (.if_icmp .gt 24, 3) := by decide +kernel
theorem dX11_moment_20 : decode cX11_moment 20 = .ok (.iload_n 3, 1) := by decide +kernel
theorem dX11_moment_21 : decode cX11_moment 21 = .ok (.ifCond .lt 20, 3) := by decide +kernel
theorem dX11_moment_24 : decode cX11_moment 24 = .ok (.iload_n 3, 1) := by decide +kernel
theorem dX11_moment_25 : decode cX11_moment 25 = .ok (.bipush 9, 2) := by decide +kernel
theorem dX11_moment_27 : decode cX11_moment 27 = .ok (.if_icmp .gt 14, 3) := by decide +kernel
theorem dX11_moment_30 : decode cX11_moment 30 = .ok (.iload 4, 2) := by decide +kernel
theorem dX11_moment_32 : decode cX11_moment 32 = .ok (.ifCond .lt 9, 3) := by decide +kernel
theorem dX11_moment_35 : decode cX11_moment 35 = .ok (.iload 4, 2) := by decide +kernel
theorem dX11_moment_37 : decode cX11_moment 37 = .ok (.iconst 2, 1) := by decide +kernel
theorem dX11_moment_38 : decode cX11_moment 38 = .ok (.if_icmp .le 7, 3) := by decide +kernel
theorem dX11_moment_41 : decode cX11_moment 41 = .ok (.ldc2_w 189, 3) := by decide +kernel
theorem dX11_moment_44 : decode cX11_moment 44 = .ok (.lreturn, 1) := by decide +kernel
theorem dX11_moment_45 : decode cX11_moment 45 = .ok (.aload_n 0, 1) := by decide +kernel
theorem dX11_moment_46 : decode cX11_moment 46 = .ok (.getfield 58, 3) := by decide +kernel
theorem dX11_moment_49 : decode cX11_moment 49 = .ok (.iload_n 1, 1) := by decide +kernel
theorem dX11_moment_50 : decode cX11_moment 50 = .ok (.iload_n 2, 1) := by decide +kernel
theorem dX11_moment_51 : decode cX11_moment 51 = .ok (.iload_n 3, 1) := by decide +kernel
theorem dX11_moment_52 : decode cX11_moment 52 = .ok (.invokevirtual 191, 3) := by decide +kernel
theorem dX11_moment_55 : decode cX11_moment 55 = .ok (.iload 4, 2) := by decide +kernel
theorem dX11_moment_57 : decode cX11_moment 57 = .ok (.iconst 2, 1) := by decide +kernel
theorem dX11_moment_58 : decode cX11_moment 58 = .ok (.if_icmp .ne 19, 3) := by decide +kernel
theorem dX11_moment_61 : decode cX11_moment 61 = .ok (.aload_n 0, 1) := by decide +kernel
theorem dX11_moment_62 : decode cX11_moment 62 = .ok (.getfield 58, 3) := by decide +kernel
theorem dX11_moment_65 : decode cX11_moment 65 = .ok (.getfield 195, 3) := by decide +kernel
theorem dX11_moment_68 : decode cX11_moment 68 = .ok (.ifCond .eq 7, 3) := by decide +kernel
theorem dX11_moment_71 : decode cX11_moment 71 = .ok (.lconst 1, 1) := by decide +kernel
theorem dX11_moment_72 : decode cX11_moment 72 = .ok (.goto 4, 3) := by decide +kernel
theorem dX11_moment_75 : decode cX11_moment 75 = .ok (.lconst 0, 1) := by decide +kernel
theorem dX11_moment_76 : decode cX11_moment 76 = .ok (.lreturn, 1) := by decide +kernel
theorem dX11_moment_77 : decode cX11_moment 77 = .ok (.aload_n 0, 1) := by decide +kernel
theorem dX11_moment_78 : decode cX11_moment 78 = .ok (.getfield 58, 3) := by decide +kernel
theorem dX11_moment_81 : decode cX11_moment 81 = .ok (.getfield 199, 3) := by decide +kernel
theorem dX11_moment_84 : decode cX11_moment 84 = .ok (.aload_n 0, 1) := by decide +kernel
theorem dX11_moment_85 : decode cX11_moment 85 = .ok (.getfield 58, 3) := by decide +kernel
theorem dX11_moment_88 : decode cX11_moment 88 = .ok (.getfield 203, 3) := by decide +kernel
theorem dX11_moment_91 : decode cX11_moment 91 = .ok (.invokestatic 206, 3) := by decide +kernel
theorem dX11_moment_94 : decode cX11_moment 94 = .ok (.lstore 5, 2) := by decide +kernel
theorem dX11_moment_96 : decode cX11_moment 96 = .ok (.iload 4, 2) := by decide +kernel
theorem dX11_moment_98 : decode cX11_moment 98 = .ok (.ifCond .ne 13, 3) := by decide +kernel
theorem dX11_moment_101 : decode cX11_moment 101 = .ok (.aload_n 0, 1) := by decide +kernel
theorem dX11_moment_102 : decode cX11_moment 102 = .ok (.getfield 58, 3) := by decide +kernel
theorem dX11_moment_105 : decode cX11_moment 105 = .ok (.getfield 199, 3) := by decide +kernel
theorem dX11_moment_108 : decode cX11_moment 108 = .ok (.goto 10, 3) := by decide +kernel
theorem dX11_moment_111 : decode cX11_moment 111 = .ok (.aload_n 0, 1) := by decide +kernel
theorem dX11_moment_112 : decode cX11_moment 112 = .ok (.getfield 58, 3) := by decide +kernel
theorem dX11_moment_115 : decode cX11_moment 115 = .ok (.getfield 203, 3) := by decide +kernel
theorem dX11_moment_118 : decode cX11_moment 118 = .ok (.lload 5, 2) := by decide +kernel
theorem dX11_moment_120 : decode cX11_moment 120 = .ok (.ldiv, 1) := by decide +kernel
theorem dX11_moment_121 : decode cX11_moment 121 = .ok (.lreturn, 1) := by decide +kernel
theorem tf_11_195 : tFld TB0 11 195 = some (3, 3) := rfl
theorem tf_11_199 : tFld TB0 11 199 = some (3, 1) := rfl
theorem tf_11_203 : tFld TB0 11 203 = some (3, 2) := rfl
set_option maxRecDepth 20000 in
theorem tm_3_59 : tMet TB0 3 59 = some (14, M_none) := rfl
set_option maxRecDepth 20000 in
theorem tm_11_191 : tMet TB0 11 191 = some (0, M_X3_weighMoment) := rfl
theorem tl_3_57 : tLdl TB0 3 57 = some (10) := rfl
theorem eu_b {p q : Int} {i K : Nat} (hq : 0 < q) (hp : q ≤ p) (h : p * q * ((2 ^ i : Nat) : Int) ≤ K) : 2 ^ i ≤ K := by
  have h1 : 1 ≤ p * q := by
    have := Int.mul_pos (show 0 < p by omega) hq
    omega
  have h2 : 1 * ((2 ^ i : Nat) : Int) ≤ p * q * ((2 ^ i : Nat) : Int) := Int.mul_le_mul_of_nonneg_right h1 (Int.natCast_nonneg _)
  omega
theorem eu_i {i : Nat} (h : 2 ^ i ≤ 180000000000000000000) : i < 68 := by
  rcases Nat.lt_or_ge i 68 with q | q
  · exact q
  · have := Nat.pow_le_pow_right (n := 2) (by omega) q
    omega
theorem eu_s {p q : Int} {i : Int} (hi : 0 ≤ i) (hq : 0 < q) (hp : q ≤ p) (h : p * q * ((2 ^ i.toNat : Nat) : Int) ≤ 180000000000000000000) : q * (p % q) * ((2 ^ (i + 1).toNat : Nat) : Int) ≤ 180000000000000000000 := by
  rw [show (i + 1).toNat = i.toNat + 1 by omega, Nat.pow_succ]
  have m1 := Int.emod_nonneg p (show q ≠ 0 by omega)
  have m2 := Int.emod_lt_of_pos p hq
  have m3 : p % q + q ≤ p := by
    have e := Int.emod_add_mul_ediv p q
    have d : 1 ≤ p / q := (Int.le_ediv_iff_mul_le hq).mpr (by omega)
    have : q * 1 ≤ q * (p / q) := Int.mul_le_mul_of_nonneg_left d (by omega)
    omega
  have m4 : q * (2 * (p % q)) ≤ q * p := Int.mul_le_mul_of_nonneg_left (by omega) (by omega)
  have n0 : (0 : Int) ≤ ((2 ^ i.toNat : Nat) : Int) := Int.natCast_nonneg _
  have m5 : q * (2 * (p % q)) * ((2 ^ i.toNat : Nat) : Int) ≤ q * p * ((2 ^ i.toNat : Nat) : Int) := Int.mul_le_mul_of_nonneg_right m4 n0
  rw [Int.mul_comm q p] at m5
  have e2 : q * (p % q) * (((2 ^ i.toNat * 2 : Nat)) : Int) = q * (2 * (p % q)) * ((2 ^ i.toNat : Nat) : Int) := by
    rw [Int.natCast_mul]
    have : ((2 : Nat) : Int) = 2 := rfl
    rw [this, Int.mul_comm 2 (p % q), ← Int.mul_assoc q (p % q) 2, Int.mul_assoc (q * (p % q)) 2, Int.mul_comm 2]
  rw [e2]; omega
theorem eu_0 {a c : Int} (ha : 0 ≤ a ∧ a ≤ 90000000000) (hc : 0 < c ∧ c ≤ 1000000000) : c * (a % c) * ((2 ^ ((0 : Int) + 1).toNat : Nat) : Int) ≤ 180000000000000000000 := by
  have m1 := Int.emod_nonneg a (show c ≠ 0 by omega)
  have m2 : a % c ≤ a := by
    have e := Int.emod_add_mul_ediv a c
    have d := Int.mul_nonneg (show 0 ≤ c by omega) (Int.ediv_nonneg ha.1 (show 0 ≤ c by omega))
    omega
  have h1 : c * (a % c) ≤ 1000000000 * (a % c) := Int.mul_le_mul_of_nonneg_right hc.2 m1
  have e : ((2 ^ ((0 : Int) + 1).toNat : Nat) : Int) = 2 := by decide
  rw [e]; omega
def euI (a c p q i : Int) : Prop := (q ≤ p ∧ p * q * ((2 ^ i.toNat : Nat) : Int) ≤ 180000000000000000000) ∨ (i = 0 ∧ p = a ∧ q = c)
theorem euI_s {a c p q i : Int} (ha : 0 ≤ a ∧ a ≤ 90000000000) (hc : 0 < c ∧ c ≤ 1000000000) (hi : 0 ≤ i) (hq : 0 < q) (h : euI a c p q i) : euI a c q (p % q) (i + 1) := by
  have m2 := Int.emod_lt_of_pos p hq
  rcases h with ⟨z1, z2⟩ | ⟨z1, z2, z3⟩
  · exact Or.inl ⟨by omega, eu_s hi hq z1 z2⟩
  · subst z1 z2 z3
    exact Or.inl ⟨by omega, eu_0 ha hc⟩
theorem euI_b {a c p q i : Int} (hi : 0 ≤ i) (hq : 0 < q) (h : euI a c p q i) : i < 68 := by
  rcases h with ⟨z1, z2⟩ | ⟨z1, z2, z3⟩
  · have := eu_i (eu_b (K := 180000000000000000000) hq z1 z2)
    omega
  · omega
/-- the class's moment: mean, scale, whether now -/
def moC (h : mH) (y : Nat) (v n w : Int) : Prop := rJ h y 1 = moZ v n w ∧ rJ h y 2 = tnZ n ∧ rI h y 3 = bZ (nowP v n w)
theorem moC_c {S : Nat → Nat → Prop} {h h1 : mH} {y : Nat} {v n w : Int} (f : frm S h h1) (z : ∀ a k, a = y → 1 ≤ k ∧ k ≤ 3 → ¬ S a k) (H : moC h y v n w) : moC h1 y v n w := ⟨(frm_rJ f (z _ _ rfl (by omega))).trans H.1, (frm_rJ f (z _ _ rfl (by omega))).trans H.2.1, (frm_r f (z _ _ rfl (by omega))).trans H.2.2⟩
set_option maxHeartbeats 400000 in
theorem zp_X11_greatestDivisor {ad : mA} {dd : Nat} {h : mH} {Q : mQ}    (a : Int) (c : Int) (p1 : 0 ≤ a ∧ a ≤ 90000000000) (p2 : 0 < c ∧ c ≤ 1000000000) (kq : Q (some (.long (zJ (gcZ c a)))) h) : mCal TB0 ad (dd + 1) M_X11_greatestDivisor [.long (zJ a), .long (zJ c)] h 0 0 Q := by
  refine ⟨Nat.le_of_ble_eq_true rfl, ?_⟩
  show mEv TB0 ad M_X11_greatestDivisor (dd + 1) (0, 0) (mCal TB0 ad (dd + 0)) (fun v h' z => z.1 = 0 ∧ Q v h') 0 [some (.long (zJ a)), none, some (.long (zJ c)), none, none, none, none, none, none, none, none] [] h (0, 0)
  refine e_lload_n dX11_greatestDivisor_0 rfl ?_
  refine z_labs dX11_greatestDivisor_1 tm_11_326 (Nat.le_of_ble_eq_true rfl) ⟨by omega, by omega⟩ ?_
  refine e_lstore (L' := [_, _, _, _, _, _, _, _, _, _, _]) dX11_greatestDivisor_4 (Nat.le_of_ble_eq_true rfl) rfl ?_
  refine e_lload_n dX11_greatestDivisor_6 rfl ?_
  refine z_labs dX11_greatestDivisor_7 tm_11_326 (Nat.le_of_ble_eq_true rfl) ⟨by omega, by omega⟩ ?_
  refine e_lstore (L' := [_, _, _, _, _, _, _, _, _, _, _]) dX11_greatestDivisor_10 (Nat.le_of_ble_eq_true rfl) rfl ?_
  refine z_iconst (0) dX11_greatestDivisor_12 rfl ?_
  refine e_istore (L' := [_, _, _, _, _, _, _, _, _, _, _]) dX11_greatestDivisor_13 (Nat.le_of_ble_eq_true rfl) rfl ?_
  have lp1 : ∀ (n1 : Nat) (p q i : Int), (q).toNat = n1 → (0 ≤ p ∧ p < 1000000000000) → (0 ≤ q ∧ q < 1000000000000) → (gcZ p q = gcZ c a) → (0 ≤ i ∧ i ≤ 200) → (0 < p + q) → (euI a c p q i) → mEv TB0 ad M_X11_greatestDivisor (dd + 1) (0, 0) (mCal TB0 ad (dd + 0)) (fun v h' z => z.1 = 0 ∧ Q v h') 15 [some (.long (zJ a)), none, some (.long (zJ c)), none, some (.long (zJ p)), none, some (.long (zJ q)), none, some (.int (zI i)), none, none] [] h (0, 0) := by
    intro n1
    induction n1 using Nat.strongRecOn with
    | ind n1 ih1 =>
    intro p q i  hn1  I1 I2 I3 I4 I5 I6
    refine e_iload dX11_greatestDivisor_15 rfl ?_
    refine z_sipush (200) dX11_greatestDivisor_17 rfl ?_
    refine z_icmp_ge 51 dX11_greatestDivisor_20 rfl ⟨by omega, by omega⟩ ⟨by omega, by omega⟩ (fun c2 => ?_) (fun c2 => ?_)
    · skip
      refine z_lconst (1) dX11_greatestDivisor_51 rfl ?_
      refine e_lload dX11_greatestDivisor_52 rfl ?_
      refine z_lmax dX11_greatestDivisor_54 tm_11_329 (Nat.le_of_ble_eq_true rfl) ⟨by omega, by omega⟩ ⟨by omega, by omega⟩ ?_
      refine z_lret dX11_greatestDivisor_57 rfl ⟨rfl, ?_⟩
      refine z_qJ kq ?_
      have q0 : q = 0 := Decidable.byContradiction (fun z => by have := euI_b (by omega) (show 0 < q by omega) I6; omega)
      rw [← I3, q0, gcZ_0 (by omega)]; omega
    · skip
      refine e_lload dX11_greatestDivisor_23 rfl ?_
      refine z_lconst (0) dX11_greatestDivisor_25 rfl ?_
      refine z_lcmp dX11_greatestDivisor_26 ⟨by omega, by omega⟩ ⟨by omega, by omega⟩ ?_
      refine z_ifl_eq 51 dX11_greatestDivisor_27 rfl (fun c3 => ?_) (fun c3 => ?_)
      · skip
        refine z_lconst (1) dX11_greatestDivisor_51 rfl ?_
        refine e_lload dX11_greatestDivisor_52 rfl ?_
        refine z_lmax dX11_greatestDivisor_54 tm_11_329 (Nat.le_of_ble_eq_true rfl) ⟨by omega, by omega⟩ ⟨by omega, by omega⟩ ?_
        refine z_lret dX11_greatestDivisor_57 rfl ⟨rfl, ?_⟩
        refine z_qJ kq ?_
        have q0 : q = 0 := Decidable.byContradiction (fun z => by have := euI_b (by omega) (show 0 < q by omega) I6; omega)
        rw [← I3, q0, gcZ_0 (by omega)]; omega
      · skip
        refine e_lload dX11_greatestDivisor_30 rfl ?_
        refine e_lload dX11_greatestDivisor_32 rfl ?_
        refine z_lrem dX11_greatestDivisor_34 (by omega) (by omega) (by omega) (by omega) ?_
        refine e_lstore (L' := [_, _, _, _, _, _, _, _, _, _, _]) dX11_greatestDivisor_35 (Nat.le_of_ble_eq_true rfl) rfl ?_
        refine e_lload dX11_greatestDivisor_37 rfl ?_
        refine e_lstore (L' := [_, _, _, _, _, _, _, _, _, _, _]) dX11_greatestDivisor_39 (Nat.le_of_ble_eq_true rfl) rfl ?_
        refine e_lload dX11_greatestDivisor_41 rfl ?_
        refine e_lstore (L' := [_, _, _, _, _, _, _, _, _, _, _]) dX11_greatestDivisor_43 (Nat.le_of_ble_eq_true rfl) rfl ?_
        refine z_iinc (L' := [_, _, _, _, _, _, _, _, _, _, _]) dX11_greatestDivisor_45 rfl rfl ?_
        refine e_goto 15 dX11_greatestDivisor_48 rfl ?_
        have m1 := Int.emod_nonneg p (show q ≠ 0 by omega)
        have m2 := Int.emod_lt_of_pos p (show 0 < q by omega)
        have m3 := euI_b (by omega) (show 0 < q by omega) I6
        exact mEv_wk (by exact ⟨Or.inr rfl, Or.inl rfl, Or.inr rfl, Or.inl rfl, Or.inr rfl, Or.inl rfl, Or.inr rfl, Or.inl rfl, Or.inr rfl, Or.inl rfl, Or.inl rfl, trivial⟩) (ih1 _ (by omega) q (p % q) (i + 1)  rfl  (by omega) (by omega) ((gcZ_s (by omega) (by omega)).trans I3) (by omega) (by omega) (euI_s p1 p2 (by omega) (by omega) I6))
  exact lp1 _ a c 0  rfl  (by omega) (by omega) (gcZ_c a c) (by omega) (by omega) (Or.inr ⟨rfl, rfl, rfl⟩)
set_option maxHeartbeats 3000000 in
theorem zp_X3_weighMoment {ad : mA} {dd : Nat} {h : mH} {Q : mQ} {y : Nat}  (hk : gak h y)  (w : Int) (w_r : -2147483648 ≤ w ∧ w < 2147483648) (v : Int) (v_r : -2147483648 ≤ v ∧ v < 2147483648) (n : Int) (n_r : -2147483648 ≤ n ∧ n < 2147483648) (p1 : 0 ≤ w ∧ w ≤ 9) (p2 : 0 ≤ v ∧ v ≤ 9) (p3 : 0 ≤ n ∧ n ≤ 9) (kq : ∀ h1, frm (fun a k => a = y ∧ 1 ≤ k ∧ k ≤ 3) h h1 → (moC h1 y v n w) → Q none h1) : mCal TB0 ad (dd + 1) M_X3_weighMoment [.ref y, .int (zI w), .int (zI v), .int (zI n)] h 0 0 Q := by
  refine ⟨Nat.le_of_ble_eq_true rfl, ?_⟩
  show mEv TB0 ad M_X3_weighMoment (dd + 1) (0, 0) (mCal TB0 ad (dd + 0)) (fun v h' z => z.1 = 0 ∧ Q v h') 0 [some (.ref y), some (.int (zI w)), some (.int (zI v)), some (.int (zI n)), none, none, none, none, none, none] [] h (0, 0)
  have FR0 : frm (fun a k => a = y ∧ 1 ≤ k ∧ k ≤ 3) h h := frm_0 h
  refine e_aload_n dX3_weighMoment_0 rfl ?_
  refine z_lconst (1) dX3_weighMoment_1 rfl ?_
  refine z_putJ dX3_weighMoment_2 tf_3_19 (congrArg Prod.fst (ga_s0 hk)) rfl (Or.inl rfl) (fun h1 e2 => ?_)
  have f3 := frm_1J e2
  have k4 := lk_q (frm_s f3) hk
  have FR5 := frm_t FR0 (frm_m (S' := (fun a k => a = y ∧ 1 ≤ k ∧ k ≤ 3)) f3 (fun a k q => by omega))
  have vb := vw_b p2 (w := min 9 (w + n)) (by omega)
  refine e_aload_n dX3_weighMoment_5 rfl ?_
  refine e_iload_n dX3_weighMoment_6 rfl ?_
  refine z_i2l dX3_weighMoment_7 ⟨by omega, by omega⟩ ?_
  refine z_bipush (9) dX3_weighMoment_8 rfl ?_
  refine e_iload_n dX3_weighMoment_10 rfl ?_
  refine e_iload_n dX3_weighMoment_11 rfl ?_
  refine z_iadd dX3_weighMoment_12 ?_
  refine z_mmin dX3_weighMoment_13 tm_3_45 (Nat.le_of_ble_eq_true rfl) ⟨by omega, by omega⟩ ⟨by omega, by omega⟩ ?_
  refine z_iconst (1) dX3_weighMoment_16 rfl ?_
  refine z_iadd dX3_weighMoment_17 ?_
  refine z_i2l dX3_weighMoment_18 ⟨by omega, by omega⟩ ?_
  refine z_lmul dX3_weighMoment_19 ?_
  refine z_putJ dX3_weighMoment_20 tf_3_15 (congrArg Prod.fst (ga_s0 k4)) rfl (Or.inl rfl) (fun h6 e7 => ?_)
  have f8 := frm_1J e7
  have k9 := lk_q (frm_s f8) k4
  have FR10 := frm_t FR5 (frm_m (S' := (fun a k => a = y ∧ 1 ≤ k ∧ k ≤ 3)) f8 (fun a k q => by omega))
  refine e_aload_n dX3_weighMoment_23 rfl ?_
  refine z_iconst (1) dX3_weighMoment_24 rfl ?_
  refine z_putZ dX3_weighMoment_25 tf_3_22 (congrArg Prod.fst (ga_s0 k9)) rfl (Or.inr rfl) (Or.inl rfl) (fun h11 e12 => ?_)
  have f13 := frm_1 e12
  have k14 := lk_q (frm_s f13) k9
  have FR15 := frm_t FR10 (frm_m (S' := (fun a k => a = y ∧ 1 ≤ k ∧ k ≤ 3)) f13 (fun a k q => by omega))
  refine e_iload_n dX3_weighMoment_28 rfl ?_
  refine z_iconst (1) dX3_weighMoment_29 rfl ?_
  refine z_isub dX3_weighMoment_30 ?_
  refine e_istore (L' := [_, _, _, _, _, _, _, _, _, _]) dX3_weighMoment_31 (Nat.le_of_ble_eq_true rfl) rfl ?_
  have lp16 : ∀ (n16 : Nat) (c : Int) (h16 : mH), (c + 1).toNat = n16 → (gak h16 y) → (frm (fun a k => a = y ∧ 1 ≤ k ∧ k ≤ 3) h h16) → (-1 ≤ c) → (c ≤ n - 1) → (moC h16 y v (n - 1 - c) (min 9 (w + (c + 1)))) → mEv TB0 ad M_X3_weighMoment (dd + 1) (0, 0) (mCal TB0 ad (dd + 0)) (fun v h' z => z.1 = 0 ∧ Q v h') 33 [some (.ref y), some (.int (zI w)), some (.int (zI v)), some (.int (zI n)), some (.int (zI c)), none, none, none, none, none] [] h16 (0, 0) := by
    intro n16
    induction n16 using Nat.strongRecOn with
    | ind n16 ih16 =>
    intro c h16 hn16 k17 FR18 I1 I2 I3
    refine e_iload dX3_weighMoment_33 rfl ?_
    refine z_if_lt 122 dX3_weighMoment_35 rfl ⟨by omega, by omega⟩ (fun c19 => ?_) (fun c19 => ?_)
    · skip
      refine e_vret dX3_weighMoment_122 rfl ⟨rfl, ?_⟩
      exact kq _ FR18 (by have z := I3; rw [show n - 1 - c = n by omega, show min 9 (w + (c + 1)) = w by omega] at z; exact z)
    · skip
      have kb := tnZ_b (n := (n - 1 - c)) (by omega) (by omega)
      have ks := tnZ_s (n := (n - 1 - c)) (by omega)
      have mb := moZ_b (v := v) (n := (n - 1 - c)) (w := (min 9 (w + (c + 1)))) p2 (by omega) (by omega)
      have vb := vw_b p2 (w := min 9 (w + c)) (by omega)
      have nb := nb_b (v := v) (w := min 9 (w + c)) (n := (n - 1 - c) + 1) p2 (by omega) (by omega)
      have tb := tb_b (w := min 9 (w + c)) (m := moZ v (n - 1 - c) (min 9 (w + (c + 1)))) (by omega) mb
      rw [ks] at nb
      refine z_bipush (9) dX3_weighMoment_38 rfl ?_
      refine e_iload_n dX3_weighMoment_40 rfl ?_
      refine e_iload dX3_weighMoment_41 rfl ?_
      refine z_iadd dX3_weighMoment_43 ?_
      refine z_mmin dX3_weighMoment_44 tm_3_45 (Nat.le_of_ble_eq_true rfl) ⟨by omega, by omega⟩ ⟨by omega, by omega⟩ ?_
      refine e_istore (L' := [_, _, _, _, _, _, _, _, _, _]) dX3_weighMoment_47 (Nat.le_of_ble_eq_true rfl) rfl ?_
      refine e_aload_n dX3_weighMoment_49 rfl ?_
      refine e_dup dX3_weighMoment_50 rfl ?_
      refine z_getJ (tnZ (n - 1 - c)) dX3_weighMoment_51 tf_3_19 (congrArg Prod.fst (ga_s0 k17)) rfl I3.2.1 ?_
      refine z_ldc2 (10) dX3_weighMoment_54 tl_3_57 rfl ?_
      refine z_lmul dX3_weighMoment_57 ?_
      refine z_putJ dX3_weighMoment_58 tf_3_19 (congrArg Prod.fst (ga_s0 k17)) rfl (Or.inl rfl) (fun h20 e21 => ?_)
      have f22 := frm_1J e21
      have k23 := lk_q (frm_s f22) k17
      have FR24 := frm_t FR18 (frm_m (S' := (fun a k => a = y ∧ 1 ≤ k ∧ k ≤ 3)) f22 (fun a k q => by omega))
      refine e_iload_n dX3_weighMoment_61 rfl ?_
      refine e_iload dX3_weighMoment_62 rfl ?_
      refine z_iconst (1) dX3_weighMoment_64 rfl ?_
      refine z_iadd dX3_weighMoment_65 ?_
      refine z_imul dX3_weighMoment_66 ?_
      refine z_i2l dX3_weighMoment_67 ⟨by omega, by omega⟩ ?_
      refine e_aload_n dX3_weighMoment_68 rfl ?_
      refine z_getJ (tnZ (n - 1 - c) * 10) dX3_weighMoment_69 tf_3_19 (congrArg Prod.fst (ga_s0 k23)) rfl (rJ_eq e21 ⟨by omega, by omega⟩) ?_
      refine z_lmul dX3_weighMoment_72 ?_
      refine e_lstore (L' := [_, _, _, _, _, _, _, _, _, _]) dX3_weighMoment_73 (Nat.le_of_ble_eq_true rfl) rfl ?_
      refine z_bipush (10) dX3_weighMoment_75 rfl ?_
      refine e_iload dX3_weighMoment_77 rfl ?_
      refine z_isub dX3_weighMoment_79 ?_
      refine z_i2l dX3_weighMoment_80 ⟨by omega, by omega⟩ ?_
      refine e_aload_n dX3_weighMoment_81 rfl ?_
      refine z_getJ (moZ v (n - 1 - c) (min 9 (w + (c + 1)))) dX3_weighMoment_82 tf_3_15 (congrArg Prod.fst (ga_s0 k23)) rfl ((frm_rJ f22 (by omega)).trans I3.1) ?_
      refine z_lmul dX3_weighMoment_85 ?_
      refine e_lstore (L' := [_, _, _, _, _, _, _, _, _, _]) dX3_weighMoment_86 (Nat.le_of_ble_eq_true rfl) rfl ?_
      refine e_aload_n dX3_weighMoment_88 rfl ?_
      refine e_lload dX3_weighMoment_89 rfl ?_
      refine e_lload dX3_weighMoment_91 rfl ?_
      refine z_lcmp dX3_weighMoment_93 ⟨by omega, by omega⟩ ⟨by omega, by omega⟩ ?_
      refine z_ifl_lt 101 dX3_weighMoment_94 rfl (fun c25 => ?_) (fun c25 => ?_)
      · skip
        refine z_iconst (0) dX3_weighMoment_101 rfl ?_
        refine z_putZ dX3_weighMoment_102 tf_3_22 (congrArg Prod.fst (ga_s0 k23)) rfl (Or.inl rfl) (Or.inl rfl) (fun h26 e27 => ?_)
        have f28 := frm_1 e27
        have k29 := lk_q (frm_s f28) k23
        have FR30 := frm_t FR24 (frm_m (S' := (fun a k => a = y ∧ 1 ≤ k ∧ k ≤ 3)) f28 (fun a k q => by omega))
        refine e_aload_n dX3_weighMoment_105 rfl ?_
        refine e_lload dX3_weighMoment_106 rfl ?_
        refine e_lload dX3_weighMoment_108 rfl ?_
        refine z_lmax dX3_weighMoment_110 tm_3_59 (Nat.le_of_ble_eq_true rfl) ⟨by omega, by omega⟩ ⟨by omega, by omega⟩ ?_
        refine z_putJ dX3_weighMoment_113 tf_3_15 (congrArg Prod.fst (ga_s0 k29)) rfl (Or.inl rfl) (fun h31 e32 => ?_)
        have f33 := frm_1J e32
        have k34 := lk_q (frm_s f33) k29
        have FR35 := frm_t FR30 (frm_m (S' := (fun a k => a = y ∧ 1 ≤ k ∧ k ≤ 3)) f33 (fun a k q => by omega))
        refine z_iinc (L' := [_, _, _, _, _, _, _, _, _, _]) dX3_weighMoment_116 rfl rfl ?_
        refine e_goto 33 dX3_weighMoment_119 rfl ?_
        have e1 : n - 1 - (c + -1) = (n - 1 - c) + 1 := by omega
        have e2 : w + (c + -1 + 1) = w + c := by omega
        have e3 : (n - 1 - c) + 1 - 1 = (n - 1 - c) := by omega
        have e4 : min 9 (min 9 (w + c) + 1) = (min 9 (w + (c + 1))) := by omega
        have e5 := moZ_s (v := v) (n := (n - 1 - c)) (w := min 9 (w + c)) (by omega)
        rw [e4, ks] at e5
        exact mEv_wk (by exact ⟨Or.inr rfl, Or.inr rfl, Or.inr rfl, Or.inr rfl, Or.inr rfl, Or.inl rfl, Or.inl rfl, Or.inl rfl, Or.inl rfl, Or.inl rfl, trivial⟩) (ih16 _ (by omega) (c + (-1)) h31 rfl k34 FR35 (by omega) (by omega) (by
                  rw [e1, e2]
                  refine ⟨((rJ_eq e32 ⟨by omega, by omega⟩)).trans ?_, (((frm_rJ f33 (by omega)).trans (frm_rJ f28 (by omega))).trans (rJ_eq e21 ⟨by omega, by omega⟩)).trans ks.symm, ((frm_r f33 (by omega)).trans (rI_eq e27 ⟨by omega, by omega⟩)).trans ?_⟩
                  · exact e5.symm
                  · first | exact (bZ_1 (Or.inr (by rw [e3, e4, ks]; omega))).symm | exact (bZ_0 (fun z => by rcases z with z | z; omega; rw [e3, e4, ks] at z; omega)).symm))
      · skip
        refine z_iconst (1) dX3_weighMoment_97 rfl ?_
        refine e_goto 102 dX3_weighMoment_98 rfl ?_
        refine z_putZ dX3_weighMoment_102 tf_3_22 (congrArg Prod.fst (ga_s0 k23)) rfl (Or.inr rfl) (Or.inl rfl) (fun h36 e37 => ?_)
        have f38 := frm_1 e37
        have k39 := lk_q (frm_s f38) k23
        have FR40 := frm_t FR24 (frm_m (S' := (fun a k => a = y ∧ 1 ≤ k ∧ k ≤ 3)) f38 (fun a k q => by omega))
        refine e_aload_n dX3_weighMoment_105 rfl ?_
        refine e_lload dX3_weighMoment_106 rfl ?_
        refine e_lload dX3_weighMoment_108 rfl ?_
        refine z_lmax dX3_weighMoment_110 tm_3_59 (Nat.le_of_ble_eq_true rfl) ⟨by omega, by omega⟩ ⟨by omega, by omega⟩ ?_
        refine z_putJ dX3_weighMoment_113 tf_3_15 (congrArg Prod.fst (ga_s0 k39)) rfl (Or.inl rfl) (fun h41 e42 => ?_)
        have f43 := frm_1J e42
        have k44 := lk_q (frm_s f43) k39
        have FR45 := frm_t FR40 (frm_m (S' := (fun a k => a = y ∧ 1 ≤ k ∧ k ≤ 3)) f43 (fun a k q => by omega))
        refine z_iinc (L' := [_, _, _, _, _, _, _, _, _, _]) dX3_weighMoment_116 rfl rfl ?_
        refine e_goto 33 dX3_weighMoment_119 rfl ?_
        have e1 : n - 1 - (c + -1) = (n - 1 - c) + 1 := by omega
        have e2 : w + (c + -1 + 1) = w + c := by omega
        have e3 : (n - 1 - c) + 1 - 1 = (n - 1 - c) := by omega
        have e4 : min 9 (min 9 (w + c) + 1) = (min 9 (w + (c + 1))) := by omega
        have e5 := moZ_s (v := v) (n := (n - 1 - c)) (w := min 9 (w + c)) (by omega)
        rw [e4, ks] at e5
        exact mEv_wk (by exact ⟨Or.inr rfl, Or.inr rfl, Or.inr rfl, Or.inr rfl, Or.inr rfl, Or.inl rfl, Or.inl rfl, Or.inl rfl, Or.inl rfl, Or.inl rfl, trivial⟩) (ih16 _ (by omega) (c + (-1)) h41 rfl k44 FR45 (by omega) (by omega) (by
                  rw [e1, e2]
                  refine ⟨((rJ_eq e42 ⟨by omega, by omega⟩)).trans ?_, (((frm_rJ f43 (by omega)).trans (frm_rJ f38 (by omega))).trans (rJ_eq e21 ⟨by omega, by omega⟩)).trans ks.symm, ((frm_r f43 (by omega)).trans (rI_eq e37 ⟨by omega, by omega⟩)).trans ?_⟩
                  · exact e5.symm
                  · first | exact (bZ_1 (Or.inr (by rw [e3, e4, ks]; omega))).symm | exact (bZ_0 (fun z => by rcases z with z | z; omega; rw [e3, e4, ks] at z; omega)).symm))
  exact lp16 _ (n - 1) h11 rfl k14 FR15 (by omega) (by omega) (⟨(((frm_rJ f13 (by omega)).trans (rJ_eq e7 ⟨by omega, by omega⟩))).trans (by rw [show n - 1 - (n - 1) = 0 by omega, show w + (n - 1 + 1) = w + n by omega]; rfl), (((frm_rJ f13 (by omega)).trans (frm_rJ f8 (by omega))).trans (rJ_eq e2 ⟨by omega, by omega⟩)).trans (by rw [show n - 1 - (n - 1) = 0 by omega]; rfl), ((rI_eq e12 ⟨by omega, by omega⟩)).trans (bZ_1 (Or.inl (by omega))).symm⟩)
set_option maxHeartbeats 2000000 in
theorem zp_X11_moment {ad : mA} {dd : Nat} {h : mH} {Q : mQ} {x : Nat}  (hk : bk h x)  (w : Int) (w_r : -2147483648 ≤ w ∧ w < 2147483648) (v : Int) (v_r : -2147483648 ≤ v ∧ v < 2147483648) (n : Int) (n_r : -2147483648 ≤ n ∧ n < 2147483648) (k : Int) (k_r : -2147483648 ≤ k ∧ k < 2147483648)  (kq : ∀ h1, frm (fun a i => x + 56 ≤ a ∧ a < x + 157) h h1 → Q (some (.long (zJ (moV w v n k)))) h1) : mCal TB0 ad (dd + 2) M_X11_moment [.ref x, .int (zI w), .int (zI v), .int (zI n), .int (zI k)] h 0 0 Q := by
  refine ⟨Nat.le_of_ble_eq_true rfl, ?_⟩
  show mEv TB0 ad M_X11_moment (dd + 2) (0, 0) (mCal TB0 ad (dd + 1)) (fun v h' z => z.1 = 0 ∧ Q v h') 0 [some (.ref x), some (.int (zI w)), some (.int (zI v)), some (.int (zI n)), some (.int (zI k)), none, none] [] h (0, 0)
  have FR0 : frm (fun a i => x + 56 ≤ a ∧ a < x + 157) h h := frm_0 h
  refine e_iload_n dX11_moment_0 rfl ?_
  refine z_if_lt 41 dX11_moment_1 rfl ⟨by omega, by omega⟩ (fun c1 => ?_) (fun c1 => ?_)
  · skip
    refine z_ldc2 (-1) dX11_moment_41 tl_11_189 rfl ?_
    refine z_lret dX11_moment_44 rfl ⟨rfl, ?_⟩
    refine z_qJ (kq _ FR0) ?_
    unfold moV
    rw [if_neg (by omega)]
  · skip
    refine e_iload_n dX11_moment_4 rfl ?_
    refine z_bipush (9) dX11_moment_5 rfl ?_
    refine z_icmp_gt 41 dX11_moment_7 rfl ⟨by omega, by omega⟩ ⟨by omega, by omega⟩ (fun c2 => ?_) (fun c2 => ?_)
    · skip
      refine z_ldc2 (-1) dX11_moment_41 tl_11_189 rfl ?_
      refine z_lret dX11_moment_44 rfl ⟨rfl, ?_⟩
      refine z_qJ (kq _ FR0) ?_
      unfold moV
      rw [if_neg (by omega)]
    · skip
      refine e_iload_n dX11_moment_10 rfl ?_
      refine z_if_lt 41 dX11_moment_11 rfl ⟨by omega, by omega⟩ (fun c3 => ?_) (fun c3 => ?_)
      · skip
        refine z_ldc2 (-1) dX11_moment_41 tl_11_189 rfl ?_
        refine z_lret dX11_moment_44 rfl ⟨rfl, ?_⟩
        refine z_qJ (kq _ FR0) ?_
        unfold moV
        rw [if_neg (by omega)]
      · skip
        refine e_iload_n dX11_moment_14 rfl ?_
        refine z_bipush (9) dX11_moment_15 rfl ?_
        refine z_icmp_gt 41 dX11_moment_17 rfl ⟨by omega, by omega⟩ ⟨by omega, by omega⟩ (fun c4 => ?_) (fun c4 => ?_)
        · skip
          refine z_ldc2 (-1) dX11_moment_41 tl_11_189 rfl ?_
          refine z_lret dX11_moment_44 rfl ⟨rfl, ?_⟩
          refine z_qJ (kq _ FR0) ?_
          unfold moV
          rw [if_neg (by omega)]
        · skip
          refine e_iload_n dX11_moment_20 rfl ?_
          refine z_if_lt 41 dX11_moment_21 rfl ⟨by omega, by omega⟩ (fun c5 => ?_) (fun c5 => ?_)
          · skip
            refine z_ldc2 (-1) dX11_moment_41 tl_11_189 rfl ?_
            refine z_lret dX11_moment_44 rfl ⟨rfl, ?_⟩
            refine z_qJ (kq _ FR0) ?_
            unfold moV
            rw [if_neg (by omega)]
          · skip
            refine e_iload_n dX11_moment_24 rfl ?_
            refine z_bipush (9) dX11_moment_25 rfl ?_
            refine z_icmp_gt 41 dX11_moment_27 rfl ⟨by omega, by omega⟩ ⟨by omega, by omega⟩ (fun c6 => ?_) (fun c6 => ?_)
            · skip
              refine z_ldc2 (-1) dX11_moment_41 tl_11_189 rfl ?_
              refine z_lret dX11_moment_44 rfl ⟨rfl, ?_⟩
              refine z_qJ (kq _ FR0) ?_
              unfold moV
              rw [if_neg (by omega)]
            · skip
              refine e_iload dX11_moment_30 rfl ?_
              refine z_if_lt 41 dX11_moment_32 rfl ⟨by omega, by omega⟩ (fun c7 => ?_) (fun c7 => ?_)
              · skip
                refine z_ldc2 (-1) dX11_moment_41 tl_11_189 rfl ?_
                refine z_lret dX11_moment_44 rfl ⟨rfl, ?_⟩
                refine z_qJ (kq _ FR0) ?_
                unfold moV
                rw [if_neg (by omega)]
              · skip
                refine e_iload dX11_moment_35 rfl ?_
                refine z_iconst (2) dX11_moment_37 rfl ?_
                refine z_icmp_le 45 dX11_moment_38 rfl ⟨by omega, by omega⟩ ⟨by omega, by omega⟩ (fun c8 => ?_) (fun c8 => ?_)
                · skip
                  refine e_aload_n dX11_moment_45 rfl ?_
                  refine e_get (.ref (x + 153)) dX11_moment_46 tf_11_58 (congrArg Prod.fst (bk_s0 hk)) (congrArg va_rf (bk_r0_7 hk)) ?_
                  refine e_iload_n dX11_moment_49 rfl ?_
                  refine e_iload_n dX11_moment_50 rfl ?_
                  refine e_iload_n dX11_moment_51 rfl ?_
                  refine e_callV [.int _, .int _, .int _] dX11_moment_52 tm_11_191 rfl (Nat.le_of_ble_eq_true rfl) (congrArg Prod.fst (bk_s153 hk)) (Nat.le_of_ble_eq_true rfl) (Nat.le_refl _) (Nat.le_refl _) rfl (zp_X3_weighMoment (bk_ga153 hk) w ⟨by omega, by omega⟩ v ⟨by omega, by omega⟩ n ⟨by omega, by omega⟩ (by omega) (by omega) (by omega) (fun  h9 f10 p11 => ?_))
                  have k12 := bk_q (frm_s f10) hk
                  have FR13 := frm_t FR0 (frm_m (S' := (fun a i => x + 56 ≤ a ∧ a < x + 157)) f10 (fun a k q => by omega))
                  have mb := moZ_b (v := v) (n := n) (w := w) (by omega) (by omega) (by omega)
                  have tb := tnZ_b (n := n) (by omega) (by omega)
                  have gp := gcZ_p (a := tnZ n) (b := moZ v n w) (by omega)
                  refine e_iload dX11_moment_55 rfl ?_
                  refine z_iconst (2) dX11_moment_57 rfl ?_
                  refine z_icmp_ne 77 dX11_moment_58 rfl ⟨by omega, by omega⟩ ⟨by omega, by omega⟩ (fun c14 => ?_) (fun c14 => ?_)
                  · skip
                    refine e_aload_n dX11_moment_77 rfl ?_
                    refine e_get (.ref (x + 153)) dX11_moment_78 tf_11_58 (congrArg Prod.fst (bk_s0 k12)) (congrArg va_rf (bk_r0_7 k12)) ?_
                    refine z_getJ (moZ v n w) dX11_moment_81 tf_11_199 (congrArg Prod.fst (bk_s153 k12)) rfl p11.1 ?_
                    refine e_aload_n dX11_moment_84 rfl ?_
                    refine e_get (.ref (x + 153)) dX11_moment_85 tf_11_58 (congrArg Prod.fst (bk_s0 k12)) (congrArg va_rf (bk_r0_7 k12)) ?_
                    refine z_getJ (tnZ n) dX11_moment_88 tf_11_203 (congrArg Prod.fst (bk_s153 k12)) rfl p11.2.1 ?_
                    refine e_callS [.long _, .long _] dX11_moment_91 tm_11_206 rfl (Nat.le_of_ble_eq_true rfl) (Nat.le_refl _) (Nat.le_refl _) rfl (zp_X11_greatestDivisor (moZ v n w) (tnZ n) (by omega) (by omega) ?_)
                    refine e_lstore (L' := [_, _, _, _, _, _, _]) dX11_moment_94 (Nat.le_of_ble_eq_true rfl) rfl ?_
                    refine e_iload dX11_moment_96 rfl ?_
                    refine z_if_ne 111 dX11_moment_98 rfl ⟨by omega, by omega⟩ (fun c15 => ?_) (fun c15 => ?_)
                    · skip
                      refine e_aload_n dX11_moment_111 rfl ?_
                      refine e_get (.ref (x + 153)) dX11_moment_112 tf_11_58 (congrArg Prod.fst (bk_s0 k12)) (congrArg va_rf (bk_r0_7 k12)) ?_
                      refine z_getJ (tnZ n) dX11_moment_115 tf_11_203 (congrArg Prod.fst (bk_s153 k12)) rfl p11.2.1 ?_
                      refine e_lload dX11_moment_118 rfl ?_
                      refine z_ldiv dX11_moment_120 (by omega) (by omega) (by omega) (by omega) ?_
                      refine z_lret dX11_moment_121 rfl ⟨rfl, ?_⟩
                      refine z_qJ (kq _ FR13) ?_
                      unfold moV
                      rw [if_pos (show (0 ≤ w ∧ w ≤ 9) ∧ (0 ≤ v ∧ v ≤ 9) ∧ (0 ≤ n ∧ n ≤ 9) ∧ (0 ≤ k ∧ k ≤ 2) by omega), if_neg (show ¬ k = 2 by omega)]
                      first | rw [if_pos (show k = 0 by omega)] | rw [if_neg (show ¬ k = 0 by omega)]
                    · skip
                      refine e_aload_n dX11_moment_101 rfl ?_
                      refine e_get (.ref (x + 153)) dX11_moment_102 tf_11_58 (congrArg Prod.fst (bk_s0 k12)) (congrArg va_rf (bk_r0_7 k12)) ?_
                      refine z_getJ (moZ v n w) dX11_moment_105 tf_11_199 (congrArg Prod.fst (bk_s153 k12)) rfl p11.1 ?_
                      refine e_goto 118 dX11_moment_108 rfl ?_
                      refine e_lload dX11_moment_118 rfl ?_
                      refine z_ldiv dX11_moment_120 (by omega) (by omega) (by omega) (by omega) ?_
                      refine z_lret dX11_moment_121 rfl ⟨rfl, ?_⟩
                      refine z_qJ (kq _ FR13) ?_
                      unfold moV
                      rw [if_pos (show (0 ≤ w ∧ w ≤ 9) ∧ (0 ≤ v ∧ v ≤ 9) ∧ (0 ≤ n ∧ n ≤ 9) ∧ (0 ≤ k ∧ k ≤ 2) by omega), if_neg (show ¬ k = 2 by omega)]
                      first | rw [if_pos (show k = 0 by omega)] | rw [if_neg (show ¬ k = 0 by omega)]
                  · skip
                    refine e_aload_n dX11_moment_61 rfl ?_
                    refine e_get (.ref (x + 153)) dX11_moment_62 tf_11_58 (congrArg Prod.fst (bk_s0 k12)) (congrArg va_rf (bk_r0_7 k12)) ?_
                    refine z_get (bZ (nowP v n w)) dX11_moment_65 tf_11_195 (congrArg Prod.fst (bk_s153 k12)) (Or.inr rfl) p11.2.2 ?_
                    refine z_ifb_eq 75 dX11_moment_68 rfl (fun c16 => ?_) (fun c16 => ?_)
                    · skip
                      refine z_lconst (0) dX11_moment_75 rfl ?_
                      refine z_lret dX11_moment_76 rfl ⟨rfl, ?_⟩
                      refine z_qJ (kq _ FR13) ?_
                      unfold moV
                      rw [if_pos (show (0 ≤ w ∧ w ≤ 9) ∧ (0 ≤ v ∧ v ≤ 9) ∧ (0 ≤ n ∧ n ≤ 9) ∧ (0 ≤ k ∧ k ≤ 2) by omega), if_pos (show k = 2 by omega)]
                      rw [bZ_0 (by assumption)]
                    · skip
                      refine z_lconst (1) dX11_moment_71 rfl ?_
                      refine e_goto 76 dX11_moment_72 rfl ?_
                      refine z_lret dX11_moment_76 rfl ⟨rfl, ?_⟩
                      refine z_qJ (kq _ FR13) ?_
                      unfold moV
                      rw [if_pos (show (0 ≤ w ∧ w ≤ 9) ∧ (0 ≤ v ∧ v ≤ 9) ∧ (0 ≤ n ∧ n ≤ 9) ∧ (0 ≤ k ∧ k ≤ 2) by omega), if_pos (show k = 2 by omega)]
                      rw [bZ_1 (by assumption)]
                · skip
                  refine z_ldc2 (-1) dX11_moment_41 tl_11_189 rfl ?_
                  refine z_lret dX11_moment_44 rfl ⟨rfl, ?_⟩
                  refine z_qJ (kq _ FR0) ?_
                  unfold moV
                  rw [if_neg (by omega)]
theorem op15 {ad : mA} {B : Nat} : op_15 ad B (Inv B) := by
  intro a b c e 
  rw [← zI_toInt a]
  rw [← zI_toInt b]
  rw [← zI_toInt c]
  rw [← zI_toInt e]
  have ra := in_of a
  generalize a.toInt = a at *
  have rb := in_of b
  generalize b.toInt = b at *
  have rc := in_of c
  generalize c.toInt = c at *
  have re := in_of e
  generalize e.toInt = e at *
  refine opq_J (fun σ r => r = moV a b c e) (fun σ r r' x y => x.trans y.symm) (fun h σ hk HX Q kq => ?_) (fun h σ hr HR Q kq => ?_)
  · exact zp_X11_moment hk a ra b rb c rc e re (fun h1 f => kq _ _ f rfl)
  · exact zp_X12_moment hr a ra b rb c rc e re (fun h1 f => kq _ _ f rfl)
