/-! BITS; THE REFERENCE'S SMALL WORDS -/
theorem dX12_ones_0 : decode cX12_ones 0 = .ok (.iconst 0, 1) := by decide +kernel
theorem dX12_ones_1 : decode cX12_ones 1 = .ok (.istore_n 1, 1) := by decide +kernel
theorem dX12_ones_2 : decode cX12_ones 2 = .ok (.iconst 0, 1) := by decide +kernel
theorem dX12_ones_3 : decode cX12_ones 3 = .ok (.istore_n 2, 1) := by decide +kernel
theorem dX12_ones_4 : decode cX12_ones 4 = .ok (.iload_n 2, 1) := by decide +kernel
theorem dX12_ones_5 : decode cX12_ones 5 = .ok (.bipush 6, 2) := by decide +kernel
theorem dX12_ones_7 : decode cX12_ones 7 = .ok (.if_icmp .ge 25, 3) := by decide +kernel
theorem dX12_ones_10 : decode cX12_ones 10 = .ok (.iload_n 1, 1) := by decide +kernel
theorem dX12_ones_11 : decode cX12_ones 11 = .ok (.iload_n 0, 1) := by decide +kernel
theorem dX12_ones_12 : decode cX12_ones 12 = .ok (.iload_n 2, 1) := by decide +kernel
theorem dX12_ones_13 : decode cX12_ones 13 = .ok (.invokestatic 107, 3) := by decide +kernel
theorem dX12_ones_16 : decode cX12_ones 16 = .ok (.ifCond .eq 7, 3) := by decide +kernel
theorem dX12_ones_19 : decode cX12_ones 19 = .ok (.iconst 1, 1) := by decide +kernel
theorem dX12_ones_20 : decode cX12_ones 20 = .ok (.goto 4, 3) := by decide +kernel
theorem dX12_ones_23 : decode cX12_ones 23 = .ok (.iconst 0, 1) := by decide +kernel
theorem dX12_ones_24 : decode cX12_ones 24 = .ok (.iadd, 1) := by decide +kernel
theorem dX12_ones_25 : decode cX12_ones 25 = .ok (.istore_n 1, 1) := by decide +kernel
theorem dX12_ones_26 : decode cX12_ones 26 = .ok (.iinc 2 1, 3) := by decide +kernel
theorem dX12_ones_29 : decode cX12_ones 29 = .ok (.goto (-25), 3) := by decide +kernel
theorem dX12_ones_32 : decode cX12_ones 32 = .ok (.iload_n 1, 1) := by decide +kernel
theorem dX12_ones_33 : decode cX12_ones 33 = .ok (.ireturn, 1) := by decide +kernel
theorem dX12_of_0 : decode cX12_of 0 = .ok (.aload_n 0, 1) := by decide +kernel
theorem dX12_of_1 : decode cX12_of 1 = .ok (.getfield 26, 3) := by decide +kernel
theorem dX12_of_4 : decode cX12_of 4 = .ok (.bipush 81, 2) := by decide +kernel
theorem dX12_of_6 : decode cX12_of 6 = .ok (.aload_n 0, 1) := by decide +kernel
theorem dX12_of_7 : decode cX12_of 7 = .ok (.getfield 264, 3) := by decide +kernel
theorem dX12_of_10 : decode cX12_of 10 = .ok (.imul, 1) := by decide +kernel
theorem dX12_of_11 : decode cX12_of 11 = .ok (.iload_n 1, 1) := by decide +kernel
theorem dX12_of_12 : decode cX12_of 12 = .ok (.iadd, 1) := by decide +kernel
theorem dX12_of_13 : decode cX12_of 13 = .ok (.iaload, 1) := by decide +kernel
theorem dX12_of_14 : decode cX12_of 14 = .ok (.ireturn, 1) := by decide +kernel
theorem dX12_cuts_0 : decode cX12_cuts 0 = .ok (.aload_n 0, 1) := by decide +kernel
theorem dX12_cuts_1 : decode cX12_cuts 1 = .ok (.iload_n 1, 1) := by decide +kernel
theorem dX12_cuts_2 : decode cX12_cuts 2 = .ok (.invokevirtual 286, 3) := by decide +kernel
theorem dX12_cuts_5 : decode cX12_cuts 5 = .ok (.ifCond .eq 29, 3) := by decide +kernel
theorem dX12_cuts_8 : decode cX12_cuts 8 = .ok (.aload_n 0, 1) := by decide +kernel
theorem dX12_cuts_9 : decode cX12_cuts 9 = .ok (.iload_n 1, 1) := by decide +kernel
theorem dX12_cuts_10 : decode cX12_cuts 10 = .ok (.aload_n 0, 1) := by decide +kernel
theorem dX12_cuts_11 : decode cX12_cuts 11 = .ok (.getfield 53, 3) := by decide +kernel
theorem dX12_cuts_14 : decode cX12_cuts 14 = .ok (.iload_n 1, 1) := by decide +kernel
theorem dX12_cuts_15 : decode cX12_cuts 15 = .ok (.iaload, 1) := by decide +kernel
theorem dX12_cuts_16 : decode cX12_cuts 16 = .ok (.invokevirtual 289, 3) := by decide +kernel
theorem dX12_cuts_19 : decode cX12_cuts 19 = .ok (.aload_n 0, 1) := by decide +kernel
theorem dX12_cuts_20 : decode cX12_cuts 20 = .ok (.bipush 63, 2) := by decide +kernel
theorem dX12_cuts_22 : decode cX12_cuts 22 = .ok (.iload_n 2, 1) := by decide +kernel
theorem dX12_cuts_23 : decode cX12_cuts 23 = .ok (.iadd, 1) := by decide +kernel
theorem dX12_cuts_24 : decode cX12_cuts 24 = .ok (.invokevirtual 267, 3) := by decide +kernel
theorem dX12_cuts_27 : decode cX12_cuts 27 = .ok (.if_icmp .lt 7, 3) := by decide +kernel
theorem dX12_cuts_30 : decode cX12_cuts 30 = .ok (.iconst 1, 1) := by decide +kernel
theorem dX12_cuts_31 : decode cX12_cuts 31 = .ok (.goto 4, 3) := by decide +kernel
theorem dX12_cuts_34 : decode cX12_cuts 34 = .ok (.iconst 0, 1) := by decide +kernel
theorem dX12_cuts_35 : decode cX12_cuts 35 = .ok (.ireturn, 1) := by decide +kernel
theorem tf_12_264 : tFld TB0 12 264 = some (12, 23) := rfl
set_option maxRecDepth 20000 in
theorem tm_12_107 : tMet TB0 12 107 = some (1, M_X12_has) := rfl
set_option maxRecDepth 20000 in
theorem tm_12_267 : tMet TB0 12 267 = some (0, M_X12_of) := rfl
set_option maxRecDepth 20000 in
theorem tm_12_286 : tMet TB0 12 286 = some (0, M_X12_isPaired) := rfl
set_option maxRecDepth 20000 in
theorem tm_12_289 : tMet TB0 12 289 = some (0, M_X12_powerOf) := rfl
/-! bits -/
theorem zs_l : ∀ n, n < 32 → ((nI n &&& 31).toBitVec.smod 32).toNat = n := by decide +kernel
theorem zn_and (a b : Nat) : nI a &&& nI b = nI (a &&& b) := by
  apply Int32.toBitVec_inj.1
  show BitVec.ofNat 32 a &&& BitVec.ofNat 32 b = BitVec.ofNat 32 (a &&& b)
  apply BitVec.eq_of_getLsbD_eq
  intro i hi
  simp [hi]
theorem zn_or (a b : Nat) : nI a ||| nI b = nI (a ||| b) := by
  apply Int32.toBitVec_inj.1
  show BitVec.ofNat 32 a ||| BitVec.ofNat 32 b = BitVec.ofNat 32 (a ||| b)
  apply BitVec.eq_of_getLsbD_eq
  intro i hi
  simp [hi]
def shlZ (a k : Int) : Int := ((a.toNat * 2 ^ k.toNat : Nat) : Int)
def shrZ (a k : Int) : Int := ((a.toNat / 2 ^ k.toNat : Nat) : Int)
def andZ (a b : Int) : Int := ((a.toNat &&& b.toNat : Nat) : Int)
def orZ (a b : Int) : Int := ((a.toNat ||| b.toNat : Nat) : Int)
abbrev hasZ (s k : Int) : Prop := s.toNat.testBit k.toNat = true
theorem shlZ_b (a k : Int) : 0 ≤ shlZ a k ∧ (a = 1 → 1 ≤ shlZ a k) ∧ (a = 1 → k < 6 → shlZ a k < 64) ∧ (a = 1 → k < 12 → shlZ a k < 4096) := by
  refine ⟨Int.natCast_nonneg _, fun h => ?_, fun h q => ?_, fun h q => ?_⟩ <;> subst h <;> unfold shlZ
  · have := Nat.two_pow_pos k.toNat
    simp only [show (1 : Int).toNat = 1 from rfl, Nat.one_mul]; omega
  · have := Nat.pow_le_pow_right (n := 2) (by omega) (show k.toNat ≤ 5 by omega)
    simp only [show (1 : Int).toNat = 1 from rfl, Nat.one_mul]; omega
  · have := Nat.pow_le_pow_right (n := 2) (by omega) (show k.toNat ≤ 11 by omega)
    simp only [show (1 : Int).toNat = 1 from rfl, Nat.one_mul]; omega
theorem shrZ_b (a k : Int) : 0 ≤ shrZ a k ∧ (0 ≤ a → shrZ a k ≤ a) := by
  refine ⟨Int.natCast_nonneg _, fun h => ?_⟩
  unfold shrZ
  have := Nat.div_le_self a.toNat (2 ^ k.toNat)
  omega
theorem andZ_b (a b : Int) : 0 ≤ andZ a b ∧ (0 ≤ a → andZ a b ≤ a) ∧ (0 ≤ b → andZ a b ≤ b) := by
  refine ⟨Int.natCast_nonneg _, fun h => ?_, fun h => ?_⟩
  · have := Nat.and_le_left (n := a.toNat) (m := b.toNat)
    unfold andZ; omega
  · have := Nat.and_le_right (n := a.toNat) (m := b.toNat)
    unfold andZ; omega
theorem orZ_b (a b : Int) : 0 ≤ orZ a b ∧ (a < 64 → b < 64 → orZ a b < 64) ∧ (a < 4096 → b < 4096 → orZ a b < 4096) ∧ (a < 1073741824 → b < 1073741824 → orZ a b < 1073741824) := by
  refine ⟨Int.natCast_nonneg _, fun h q => ?_, fun h q => ?_, fun h q => ?_⟩ <;> unfold orZ
  · have := Nat.or_lt_two_pow (n := 6) (x := a.toNat) (y := b.toNat) (by omega) (by omega)
    omega
  · have := Nat.or_lt_two_pow (n := 12) (x := a.toNat) (y := b.toNat) (by omega) (by omega)
    omega
  · have := Nat.or_lt_two_pow (n := 30) (x := a.toNat) (y := b.toNat) (by omega) (by omega)
    omega
theorem hasZ_i {s k : Int} : andZ (shrZ s k) 1 = 1 ↔ hasZ s k := by
  unfold andZ shrZ hasZ
  rw [Int.toNat_natCast, show (1 : Int).toNat = 1 from rfl, Nat.testBit, Nat.shiftRight_eq_div_pow, Nat.and_comm]
  have : 1 &&& (s.toNat / 2 ^ k.toNat) = s.toNat / 2 ^ k.toNat % 2 := by rw [Nat.and_comm, Nat.and_one_is_mod]
  rw [this]
  simp only [bne_iff_ne, ne_eq]
  omega
section ZBit
variable {T : mTb} {ad : mA} {M : mM} {dp : Nat} {lim : Nat × Nat} {cal : mC} {Q : mZ} {pc : Nat} {L L' : mL} {h : mH} {zz : Nat × Nat} {r st : List Value}
theorem z_ishl {x y : Int} (hd : decode (mMc M) pc = .ok (.ishl, 1)) (h0 : 0 ≤ x) (h1 : x < 2) (h2 : 0 ≤ y) (h3 : y < 31) (k : mEv T ad M dp lim cal Q (pc + 1) L (.int (zI (shlZ x y)) :: r) h zz) : mEv T ad M dp lim cal Q pc L (.int (zI y) :: .int (zI x) :: r) h zz := by
  refine e_ishl hd ?_
  rw [zI_nI h0, zI_nI h2, pk_shlN _ y.toNat (zs_l _ (by omega)) ?_, ← zI_nat]
  · exact k
  · have := Nat.pow_le_pow_right (n := 2) (by omega) (show y.toNat ≤ 30 by omega)
    have hx : x.toNat ≤ 1 := by omega
    calc x.toNat * 2 ^ y.toNat ≤ 1 * 2 ^ 30 := Nat.mul_le_mul hx this
      _ < 2 ^ 32 := by omega
theorem z_ishr {x y : Int} (hd : decode (mMc M) pc = .ok (.ishr, 1)) (h0 : 0 ≤ x) (h1 : x < 2147483648) (h2 : 0 ≤ y) (h3 : y < 32) (k : mEv T ad M dp lim cal Q (pc + 1) L (.int (zI (shrZ x y)) :: r) h zz) : mEv T ad M dp lim cal Q pc L (.int (zI y) :: .int (zI x) :: r) h zz := by
  refine e_ishr hd ?_
  rw [zI_nI h0, zI_nI h2, pk_shrN (by omega) _ y.toNat (zs_l _ (by omega)), ← zI_nat]
  exact k
theorem z_iand {x y : Int} (hd : decode (mMc M) pc = .ok (.iand, 1)) (h0 : 0 ≤ x) (h1 : x < 2147483648) (h2 : 0 ≤ y) (h3 : y < 2147483648) (k : mEv T ad M dp lim cal Q (pc + 1) L (.int (zI (andZ x y)) :: r) h zz) : mEv T ad M dp lim cal Q pc L (.int (zI y) :: .int (zI x) :: r) h zz := by
  refine e_iand hd ?_
  rw [zI_nI h0, zI_nI h2, zn_and, ← zI_nat]
  exact k
theorem z_ior {x y : Int} (hd : decode (mMc M) pc = .ok (.ior, 1)) (h0 : 0 ≤ x) (h1 : x < 2147483648) (h2 : 0 ≤ y) (h3 : y < 2147483648) (k : mEv T ad M dp lim cal Q (pc + 1) L (.int (zI (orZ x y)) :: r) h zz) : mEv T ad M dp lim cal Q pc L (.int (zI y) :: .int (zI x) :: r) h zz := by
  refine e_ior hd ?_
  rw [zI_nI h0, zI_nI h2, zn_or, ← zI_nat]
  exact k
end ZBit
/-! the reference's small words -/
def onesZ (s : Int) : Int := sumZ (fun k => bZ (hasZ s k)) 6
theorem onesZ_b (s : Int) : 0 ≤ onesZ s ∧ onesZ s ≤ 6 := by
  have := sumZ_b (f := fun k => bZ (hasZ s k)) (lo := 0) (hi := 1) (n := 6) (fun i _ _ => ⟨bZ_lo _, bZ_hi _⟩)
  unfold onesZ; omega
theorem fitZ_r (g : Int → Int) (d u : Int) : fitZ g d u = max 0 (30 - (2 * absI (dl g d - ul g u) + 5 * absI (ds g d - us g u) + (if dh g d = uh g u then 0 else 12))) := by
  unfold fitZ; congr 1; omega
theorem powW_0 {g : Int → Int} (w : wfB g) (d u : Int) (h : inF g d u) : powW g d u 0 = fitZ g d u + de g d + ue g u := by
  have a := wB_d w h.1.1 h.1.2
  have b := wB_u w h.2.1 h.2.2
  unfold powW; omega
theorem powW_0b {g : Int → Int} (w : wfB g) (d u : Int) (h : inF g d u) : powW g d u 0 = fitZ g d u + de g d + ue g u ∧ 0 ≤ powW g d u 0 ∧ powW g d u 0 ≤ 70 := by
  have a := wB_d w h.1.1 h.1.2
  have b := wB_u w h.2.1 h.2.2
  have c := fitZ_b g d u
  have e := powW_0 w d u h
  omega
theorem upv_in {g : Int → Int} {d : Int} (h0 : 0 ≤ d) (h1 : d < nd g) : upv g d = dm g d := if_pos ⟨h0, h1⟩
set_option maxHeartbeats 400000 in
theorem zp_X12_in {ad : mA} {dd : Nat} {h : mH} {Q : mQ}    (v : Int) (v_r : -2147483648 ≤ v ∧ v < 2147483648) (lo : Int) (lo_r : -2147483648 ≤ lo ∧ lo < 2147483648) (hi : Int) (hi_r : -2147483648 ≤ hi ∧ hi < 2147483648)  (kq : Q (some (.int (zI (bZ (lo ≤ v ∧ v ≤ hi))))) h) : mCal TB0 ad (dd + 1) M_X12_in [.int (zI v), .int (zI lo), .int (zI hi)] h 0 0 Q := by
  refine ⟨Nat.le_of_ble_eq_true rfl, ?_⟩
  show mEv TB0 ad M_X12_in (dd + 1) (0, 0) (mCal TB0 ad (dd + 0)) (fun v h' z => z.1 = 0 ∧ Q v h') 0 [some (.int (zI v)), some (.int (zI lo)), some (.int (zI hi))] [] h (0, 0)
  refine e_iload_n dX12_in_0 rfl ?_
  refine e_iload_n dX12_in_1 rfl ?_
  refine z_icmp_lt 14 dX12_in_2 rfl ⟨by omega, by omega⟩ ⟨by omega, by omega⟩ (fun c1 => ?_) (fun c1 => ?_)
  · skip
    refine z_iconst (0) dX12_in_14 rfl ?_
    refine z_bret dX12_in_15 rfl (Or.inl rfl) ⟨rfl, ?_⟩
    refine z_q0 kq ?_
    omega
  · skip
    refine e_iload_n dX12_in_5 rfl ?_
    refine e_iload_n dX12_in_6 rfl ?_
    refine z_icmp_gt 14 dX12_in_7 rfl ⟨by omega, by omega⟩ ⟨by omega, by omega⟩ (fun c2 => ?_) (fun c2 => ?_)
    · skip
      refine z_iconst (0) dX12_in_14 rfl ?_
      refine z_bret dX12_in_15 rfl (Or.inl rfl) ⟨rfl, ?_⟩
      refine z_q0 kq ?_
      omega
    · skip
      refine z_iconst (1) dX12_in_10 rfl ?_
      refine e_goto 15 dX12_in_11 rfl ?_
      refine z_bret dX12_in_15 rfl (Or.inr rfl) ⟨rfl, ?_⟩
      refine z_q1 kq ?_
      omega
set_option maxHeartbeats 400000 in
theorem zp_X12_has {ad : mA} {dd : Nat} {h : mH} {Q : mQ}    (s : Int) (s_r : -2147483648 ≤ s ∧ s < 2147483648) (k : Int) (k_r : -2147483648 ≤ k ∧ k < 2147483648) (p1 : 0 ≤ s) (p2 : 0 ≤ k) (p3 : k < 32) (kq : Q (some (.int (zI (bZ (hasZ s k))))) h) : mCal TB0 ad (dd + 1) M_X12_has [.int (zI s), .int (zI k)] h 0 0 Q := by
  refine ⟨Nat.le_of_ble_eq_true rfl, ?_⟩
  show mEv TB0 ad M_X12_has (dd + 1) (0, 0) (mCal TB0 ad (dd + 0)) (fun v h' z => z.1 = 0 ∧ Q v h') 0 [some (.int (zI s)), some (.int (zI k))] [] h (0, 0)
  refine e_iload_n dX12_has_0 rfl ?_
  refine e_iload_n dX12_has_1 rfl ?_
  refine z_ishr dX12_has_2 (by omega) (by omega) (by omega) (by omega) ?_
  have y1 := shrZ_b s k
  refine z_iconst (1) dX12_has_3 rfl ?_
  refine z_iand dX12_has_4 (by omega) (by omega) (by omega) (by omega) ?_
  have y2 := andZ_b (shrZ s k) 1
  refine z_iconst (1) dX12_has_5 rfl ?_
  refine z_icmp_ne 13 dX12_has_6 rfl ⟨by omega, by omega⟩ ⟨by omega, by omega⟩ (fun c3 => ?_) (fun c3 => ?_)
  · skip
    refine z_iconst (0) dX12_has_13 rfl ?_
    refine z_bret dX12_has_14 rfl (Or.inl rfl) ⟨rfl, ?_⟩
    refine z_q0 kq ?_
    first | exact hasZ_i.mp (by assumption) | exact fun q => absurd (hasZ_i.mpr q) (by assumption)
  · skip
    refine z_iconst (1) dX12_has_9 rfl ?_
    refine e_goto 14 dX12_has_10 rfl ?_
    refine z_bret dX12_has_14 rfl (Or.inr rfl) ⟨rfl, ?_⟩
    refine z_q1 kq ?_
    first | exact hasZ_i.mp (by assumption) | exact fun q => absurd (hasZ_i.mpr q) (by assumption)
set_option maxHeartbeats 400000 in
theorem zp_X12_greater {ad : mA} {dd : Nat} {h : mH} {Q : mQ}    (a : Int) (a_r : -2147483648 ≤ a ∧ a < 2147483648) (c : Int) (c_r : -2147483648 ≤ c ∧ c < 2147483648)  (kq : Q (some (.int (zI (max a c)))) h) : mCal TB0 ad (dd + 1) M_X12_greater [.int (zI a), .int (zI c)] h 0 0 Q := by
  refine ⟨Nat.le_of_ble_eq_true rfl, ?_⟩
  show mEv TB0 ad M_X12_greater (dd + 1) (0, 0) (mCal TB0 ad (dd + 0)) (fun v h' z => z.1 = 0 ∧ Q v h') 0 [some (.int (zI a)), some (.int (zI c))] [] h (0, 0)
  refine e_iload_n dX12_greater_0 rfl ?_
  refine e_iload_n dX12_greater_1 rfl ?_
  refine z_icmp_le 9 dX12_greater_2 rfl ⟨by omega, by omega⟩ ⟨by omega, by omega⟩ (fun c1 => ?_) (fun c1 => ?_)
  · skip
    refine e_iload_n dX12_greater_9 rfl ?_
    refine z_iret dX12_greater_10 rfl ⟨rfl, ?_⟩
    refine z_q kq ?_
    omega
  · skip
    refine e_iload_n dX12_greater_5 rfl ?_
    refine e_goto 10 dX12_greater_6 rfl ?_
    refine z_iret dX12_greater_10 rfl ⟨rfl, ?_⟩
    refine z_q kq ?_
    omega
set_option maxHeartbeats 400000 in
theorem zp_X12_lesser {ad : mA} {dd : Nat} {h : mH} {Q : mQ}    (a : Int) (a_r : -2147483648 ≤ a ∧ a < 2147483648) (c : Int) (c_r : -2147483648 ≤ c ∧ c < 2147483648)  (kq : Q (some (.int (zI (min a c)))) h) : mCal TB0 ad (dd + 1) M_X12_lesser [.int (zI a), .int (zI c)] h 0 0 Q := by
  refine ⟨Nat.le_of_ble_eq_true rfl, ?_⟩
  show mEv TB0 ad M_X12_lesser (dd + 1) (0, 0) (mCal TB0 ad (dd + 0)) (fun v h' z => z.1 = 0 ∧ Q v h') 0 [some (.int (zI a)), some (.int (zI c))] [] h (0, 0)
  refine e_iload_n dX12_lesser_0 rfl ?_
  refine e_iload_n dX12_lesser_1 rfl ?_
  refine z_icmp_ge 9 dX12_lesser_2 rfl ⟨by omega, by omega⟩ ⟨by omega, by omega⟩ (fun c1 => ?_) (fun c1 => ?_)
  · skip
    refine e_iload_n dX12_lesser_9 rfl ?_
    refine z_iret dX12_lesser_10 rfl ⟨rfl, ?_⟩
    refine z_q kq ?_
    omega
  · skip
    refine e_iload_n dX12_lesser_5 rfl ?_
    refine e_goto 10 dX12_lesser_6 rfl ?_
    refine z_iret dX12_lesser_10 rfl ⟨rfl, ?_⟩
    refine z_q kq ?_
    omega
set_option maxHeartbeats 400000 in
theorem zp_X12_apart {ad : mA} {dd : Nat} {h : mH} {Q : mQ}    (a : Int) (a_r : -2147483648 ≤ a ∧ a < 2147483648) (c : Int) (c_r : -2147483648 ≤ c ∧ c < 2147483648) (p1 : -1000 ≤ a ∧ a ≤ 1000) (p2 : -1000 ≤ c ∧ c ≤ 1000) (kq : Q (some (.int (zI (absI (a - c))))) h) : mCal TB0 ad (dd + 1) M_X12_apart [.int (zI a), .int (zI c)] h 0 0 Q := by
  refine ⟨Nat.le_of_ble_eq_true rfl, ?_⟩
  show mEv TB0 ad M_X12_apart (dd + 1) (0, 0) (mCal TB0 ad (dd + 0)) (fun v h' z => z.1 = 0 ∧ Q v h') 0 [some (.int (zI a)), some (.int (zI c))] [] h (0, 0)
  refine e_iload_n dX12_apart_0 rfl ?_
  refine e_iload_n dX12_apart_1 rfl ?_
  refine z_icmp_ge 11 dX12_apart_2 rfl ⟨by omega, by omega⟩ ⟨by omega, by omega⟩ (fun c1 => ?_) (fun c1 => ?_)
  · skip
    refine e_iload_n dX12_apart_11 rfl ?_
    refine e_iload_n dX12_apart_12 rfl ?_
    refine z_isub dX12_apart_13 ?_
    refine z_iret dX12_apart_14 rfl ⟨rfl, ?_⟩
    refine z_q kq ?_
    have := absI_s (a - c); omega
  · skip
    refine e_iload_n dX12_apart_5 rfl ?_
    refine e_iload_n dX12_apart_6 rfl ?_
    refine z_isub dX12_apart_7 ?_
    refine e_goto 14 dX12_apart_8 rfl ?_
    refine z_iret dX12_apart_14 rfl ⟨rfl, ?_⟩
    refine z_q kq ?_
    have := absI_s (a - c); omega
set_option maxHeartbeats 400000 in
theorem zp_X12_ones {ad : mA} {dd : Nat} {h : mH} {Q : mQ}    (s : Int) (s_r : -2147483648 ≤ s ∧ s < 2147483648) (p1 : 0 ≤ s) (kq : Q (some (.int (zI (onesZ s)))) h) : mCal TB0 ad (dd + 2) M_X12_ones [.int (zI s)] h 0 0 Q := by
  refine ⟨Nat.le_of_ble_eq_true rfl, ?_⟩
  show mEv TB0 ad M_X12_ones (dd + 2) (0, 0) (mCal TB0 ad (dd + 1)) (fun v h' z => z.1 = 0 ∧ Q v h') 0 [some (.int (zI s)), none, none] [] h (0, 0)
  refine z_iconst (0) dX12_ones_0 rfl ?_
  refine e_istore_n (L' := [_, _, _]) dX12_ones_1 (Nat.le_of_ble_eq_true rfl) rfl ?_
  refine z_iconst (0) dX12_ones_2 rfl ?_
  refine e_istore_n (L' := [_, _, _]) dX12_ones_3 (Nat.le_of_ble_eq_true rfl) rfl ?_
  have lp1 : ∀ (n1 : Nat) (n i : Int), (6 - i).toNat = n1 → (0 ≤ i) → (i ≤ 6) → (n = sumZ (fun k => bZ (hasZ s k)) i.toNat) → mEv TB0 ad M_X12_ones (dd + 2) (0, 0) (mCal TB0 ad (dd + 1)) (fun v h' z => z.1 = 0 ∧ Q v h') 4 [some (.int (zI s)), some (.int (zI n)), some (.int (zI i))] [] h (0, 0) := by
    intro n1
    induction n1 using Nat.strongRecOn with
    | ind n1 ih1 =>
    intro n i  hn1  I1 I2 I3
    refine e_iload_n dX12_ones_4 rfl ?_
    refine z_bipush (6) dX12_ones_5 rfl ?_
    refine z_icmp_ge 32 dX12_ones_7 rfl ⟨by omega, by omega⟩ ⟨by omega, by omega⟩ (fun c2 => ?_) (fun c2 => ?_)
    · skip
      refine e_iload_n dX12_ones_32 rfl ?_
      refine z_iret dX12_ones_33 rfl ⟨rfl, ?_⟩
      refine z_q kq ?_
      rw [I3, show i = 6 by omega]; rfl
    · skip
      refine e_iload_n dX12_ones_10 rfl ?_
      refine e_iload_n dX12_ones_11 rfl ?_
      refine e_iload_n dX12_ones_12 rfl ?_
      refine e_callS [.int _, .int _] dX12_ones_13 tm_12_107 rfl (Nat.le_of_ble_eq_true rfl) (Nat.le_refl _) (Nat.le_refl _) rfl (zp_X12_has s ⟨by omega, by omega⟩ i ⟨by omega, by omega⟩ (by omega) (by omega) (by omega) ?_)
      refine z_ifb_eq 23 dX12_ones_16 rfl (fun c3 => ?_) (fun c3 => ?_)
      · skip
        refine z_iconst (0) dX12_ones_23 rfl ?_
        refine z_iadd dX12_ones_24 ?_
        refine e_istore_n (L' := [_, _, _]) dX12_ones_25 (Nat.le_of_ble_eq_true rfl) rfl ?_
        refine z_iinc (L' := [_, _, _]) dX12_ones_26 rfl rfl ?_
        refine e_goto 4 dX12_ones_29 rfl ?_
        exact ih1 _ (by omega) (n + 0) (i + 1)  rfl  (by omega) (by omega) (by rw [sumZ_s (by omega)]; first | (rw [bZ_1 (by assumption)]; omega) | (rw [bZ_0 (by assumption)]; omega))
      · skip
        refine z_iconst (1) dX12_ones_19 rfl ?_
        refine e_goto 24 dX12_ones_20 rfl ?_
        refine z_iadd dX12_ones_24 ?_
        refine e_istore_n (L' := [_, _, _]) dX12_ones_25 (Nat.le_of_ble_eq_true rfl) rfl ?_
        refine z_iinc (L' := [_, _, _]) dX12_ones_26 rfl rfl ?_
        refine e_goto 4 dX12_ones_29 rfl ?_
        exact ih1 _ (by omega) (n + 1) (i + 1)  rfl  (by omega) (by omega) (by rw [sumZ_s (by omega)]; first | (rw [bZ_1 (by assumption)]; omega) | (rw [bZ_0 (by assumption)]; omega))
  exact lp1 _ 0 0  rfl  (by omega) (by omega) rfl
set_option maxHeartbeats 400000 in
theorem zp_X12_is {ad : mA} {dd : Nat} {h : mH} {Q : mQ} {m : Nat}  (hk : rk h m)  (s : Int) (s_r : -2147483648 ≤ s ∧ s < 2147483648) (k : Int) (k_r : -2147483648 ≤ k ∧ k < 2147483648) (p1 : 0 ≤ s) (p2 : s < 3) (p3 : -2147483648 < rI h (m + 5) s) (kq : Q (some (.int (zI (bZ (0 ≤ k ∧ k ≤ rI h (m + 5) s - 1))))) h) : mCal TB0 ad (dd + 2) M_X12_is [.ref m, .int (zI s), .int (zI k)] h 0 0 Q := by
  refine ⟨Nat.le_of_ble_eq_true rfl, ?_⟩
  show mEv TB0 ad M_X12_is (dd + 2) (0, 0) (mCal TB0 ad (dd + 1)) (fun v h' z => z.1 = 0 ∧ Q v h') 0 [some (.ref m), some (.int (zI s)), some (.int (zI k))] [] h (0, 0)
  refine e_iload_n dX12_is_0 rfl ?_
  refine z_iconst (0) dX12_is_1 rfl ?_
  refine e_aload_n dX12_is_2 rfl ?_
  refine e_get (.ref (m + 5)) dX12_is_3 tf_12_23 (rk_s hk) (congrArg va_rf (rk_r5 hk)) ?_
  refine e_iload_n dX12_is_6 rfl ?_
  refine z_ild (rI h (m + 5) s) dX12_is_7 (rk_a5 hk) (by decide) (by omega) (by omega) rfl ?_
  have y1 := rI_i h (m + 5) s
  refine z_iconst (1) dX12_is_8 rfl ?_
  refine z_isub dX12_is_9 ?_
  refine e_callS [.int _, .int _, .int _] dX12_is_10 tm_12_115 rfl (Nat.le_of_ble_eq_true rfl) (Nat.le_refl _) (Nat.le_refl _) rfl (zp_X12_in k ⟨by omega, by omega⟩ 0 ⟨by omega, by omega⟩ ((rI h (m + 5) s) - 1) ⟨by omega, by omega⟩ ?_)
  refine z_bret dX12_is_13 rfl (bZ_01 _) ⟨rfl, ?_⟩
  refine z_qb kq ?_
  exact Iff.rfl
set_option maxHeartbeats 400000 in
theorem zp_X12_of {ad : mA} {dd : Nat} {h : mH} {Q : mQ} {m : Nat}  (hk : rk h m)  (at_ : Int) (at__r : -2147483648 ≤ at_ ∧ at_ < 2147483648) (p1 : 0 ≤ 81 * rI h m 23 + at_) (p2 : 81 * rI h m 23 + at_ < 648) (kq : Q (some (.int (zI (rI h (m + 6) (81 * rI h m 23 + at_))))) h) : mCal TB0 ad (dd + 1) M_X12_of [.ref m, .int (zI at_)] h 0 0 Q := by
  refine ⟨Nat.le_of_ble_eq_true rfl, ?_⟩
  show mEv TB0 ad M_X12_of (dd + 1) (0, 0) (mCal TB0 ad (dd + 0)) (fun v h' z => z.1 = 0 ∧ Q v h') 0 [some (.ref m), some (.int (zI at_))] [] h (0, 0)
  refine e_aload_n dX12_of_0 rfl ?_
  refine e_get (.ref (m + 6)) dX12_of_1 tf_12_26 (rk_s hk) (congrArg va_rf (rk_r6 hk)) ?_
  refine z_bipush (81) dX12_of_4 rfl ?_
  refine e_aload_n dX12_of_6 rfl ?_
  refine z_get (rI h m 23) dX12_of_7 tf_12_264 (rk_s hk) (Or.inl rfl) rfl ?_
  have y1 := rI_i h m 23
  refine z_imul dX12_of_10 ?_
  refine e_iload_n dX12_of_11 rfl ?_
  refine z_iadd dX12_of_12 ?_
  refine z_ild (rI h (m + 6) ((81 * (rI h m 23)) + at_)) dX12_of_13 (rk_a6 hk) (by decide) (by omega) (by omega) rfl ?_
  have y2 := rI_i h (m + 6) ((81 * (rI h m 23)) + at_)
  refine z_iret dX12_of_14 rfl ⟨rfl, ?_⟩
  refine z_q kq ?_
  rfl
set_option maxHeartbeats 400000 in
theorem zp_X12_isDown {ad : mA} {dd : Nat} {h : mH} {Q : mQ} {m : Nat} {g : Int → Int} (hk : rk h m) (HB : rB h m g)  (d : Int) (d_r : -2147483648 ≤ d ∧ d < 2147483648)  (kq : Q (some (.int (zI (bZ (0 ≤ d ∧ d < nd g))))) h) : mCal TB0 ad (dd + 2) M_X12_isDown [.ref m, .int (zI d)] h 0 0 Q := by
  refine ⟨Nat.le_of_ble_eq_true rfl, ?_⟩
  show mEv TB0 ad M_X12_isDown (dd + 2) (0, 0) (mCal TB0 ad (dd + 1)) (fun v h' z => z.1 = 0 ∧ Q v h') 0 [some (.ref m), some (.int (zI d))] [] h (0, 0)
  have w1 := rB_n HB
  have w2 := rB_nd HB
  have w3 := rB_nu HB
  refine e_iload_n dX12_isDown_0 rfl ?_
  refine z_iconst (0) dX12_isDown_1 rfl ?_
  refine e_aload_n dX12_isDown_2 rfl ?_
  refine z_get (nd g) dX12_isDown_3 tf_12_271 (rk_s hk) (Or.inl rfl) (rB_nd HB) ?_
  have y1 := rB_n HB
  refine z_iconst (1) dX12_isDown_6 rfl ?_
  refine z_isub dX12_isDown_7 ?_
  refine e_callS [.int _, .int _, .int _] dX12_isDown_8 tm_12_115 rfl (Nat.le_of_ble_eq_true rfl) (Nat.le_refl _) (Nat.le_refl _) rfl (zp_X12_in d ⟨by omega, by omega⟩ 0 ⟨by omega, by omega⟩ ((nd g) - 1) ⟨by omega, by omega⟩ ?_)
  refine z_bret dX12_isDown_11 rfl (bZ_01 _) ⟨rfl, ?_⟩
  refine z_qb kq ?_
  omega
set_option maxHeartbeats 400000 in
theorem zp_X12_isUp {ad : mA} {dd : Nat} {h : mH} {Q : mQ} {m : Nat} {g : Int → Int} (hk : rk h m) (HB : rB h m g)  (d : Int) (d_r : -2147483648 ≤ d ∧ d < 2147483648)  (kq : Q (some (.int (zI (bZ (0 ≤ d ∧ d < nu g))))) h) : mCal TB0 ad (dd + 2) M_X12_isUp [.ref m, .int (zI d)] h 0 0 Q := by
  refine ⟨Nat.le_of_ble_eq_true rfl, ?_⟩
  show mEv TB0 ad M_X12_isUp (dd + 2) (0, 0) (mCal TB0 ad (dd + 1)) (fun v h' z => z.1 = 0 ∧ Q v h') 0 [some (.ref m), some (.int (zI d))] [] h (0, 0)
  have w1 := rB_n HB
  have w2 := rB_nd HB
  have w3 := rB_nu HB
  refine e_iload_n dX12_isUp_0 rfl ?_
  refine z_iconst (0) dX12_isUp_1 rfl ?_
  refine e_aload_n dX12_isUp_2 rfl ?_
  refine z_get (nu g) dX12_isUp_3 tf_12_274 (rk_s hk) (Or.inl rfl) (rB_nu HB) ?_
  have y1 := rB_n HB
  refine z_iconst (1) dX12_isUp_6 rfl ?_
  refine z_isub dX12_isUp_7 ?_
  refine e_callS [.int _, .int _, .int _] dX12_isUp_8 tm_12_115 rfl (Nat.le_of_ble_eq_true rfl) (Nat.le_refl _) (Nat.le_refl _) rfl (zp_X12_in d ⟨by omega, by omega⟩ 0 ⟨by omega, by omega⟩ ((nu g) - 1) ⟨by omega, by omega⟩ ?_)
  refine z_bret dX12_isUp_11 rfl (bZ_01 _) ⟨rfl, ?_⟩
  refine z_qb kq ?_
  omega
set_option maxHeartbeats 400000 in
theorem zp_X12_isCloth {ad : mA} {dd : Nat} {h : mH} {Q : mQ} {m : Nat} {g : Int → Int} (hk : rk h m) (HC : rC h m g)  (d : Int) (d_r : -2147483648 ≤ d ∧ d < 2147483648)  (kq : Q (some (.int (zI (bZ (0 ≤ d ∧ d < nc g))))) h) : mCal TB0 ad (dd + 2) M_X12_isCloth [.ref m, .int (zI d)] h 0 0 Q := by
  refine ⟨Nat.le_of_ble_eq_true rfl, ?_⟩
  show mEv TB0 ad M_X12_isCloth (dd + 2) (0, 0) (mCal TB0 ad (dd + 1)) (fun v h' z => z.1 = 0 ∧ Q v h') 0 [some (.ref m), some (.int (zI d))] [] h (0, 0)
  refine e_iload_n dX12_isCloth_0 rfl ?_
  refine z_iconst (0) dX12_isCloth_1 rfl ?_
  refine e_aload_n dX12_isCloth_2 rfl ?_
  refine z_get (nc g) dX12_isCloth_3 tf_12_277 (rk_s hk) (Or.inl rfl) (rC_nc HC) ?_
  have y1 := rC_n HC
  refine z_iconst (1) dX12_isCloth_6 rfl ?_
  refine z_isub dX12_isCloth_7 ?_
  refine e_callS [.int _, .int _, .int _] dX12_isCloth_8 tm_12_115 rfl (Nat.le_of_ble_eq_true rfl) (Nat.le_refl _) (Nat.le_refl _) rfl (zp_X12_in d ⟨by omega, by omega⟩ 0 ⟨by omega, by omega⟩ ((nc g) - 1) ⟨by omega, by omega⟩ ?_)
  refine z_bret dX12_isCloth_11 rfl (bZ_01 _) ⟨rfl, ?_⟩
  refine z_qb kq ?_
  omega
set_option maxHeartbeats 400000 in
theorem zp_X12_isPaired {ad : mA} {dd : Nat} {h : mH} {Q : mQ} {m : Nat} {g : Int → Int} (hk : rk h m) (HM : rM h m g)  (d : Int) (d_r : -2147483648 ≤ d ∧ d < 2147483648) (p1 : 0 ≤ d) (p2 : d < 6) (kq : Q (some (.int (zI (bZ (¬ dm g d = -1))))) h) : mCal TB0 ad (dd + 1) M_X12_isPaired [.ref m, .int (zI d)] h 0 0 Q := by
  refine ⟨Nat.le_of_ble_eq_true rfl, ?_⟩
  show mEv TB0 ad M_X12_isPaired (dd + 1) (0, 0) (mCal TB0 ad (dd + 0)) (fun v h' z => z.1 = 0 ∧ Q v h') 0 [some (.ref m), some (.int (zI d))] [] h (0, 0)
  refine e_aload_n dX12_isPaired_0 rfl ?_
  refine e_get (.ref (m + 15)) dX12_isPaired_1 tf_12_53 (rk_s hk) (congrArg va_rf (rk_r15 hk)) ?_
  refine e_iload_n dX12_isPaired_4 rfl ?_
  refine z_ild (dm g d) dX12_isPaired_5 (rk_a15 hk) (by decide) (by omega) (by omega) (rM_d HM (by omega) (by omega)) ?_
  have y1 := wM_d (rM_w HM) (show 0 ≤ d by omega) (by omega)
  refine z_iconst (-1) dX12_isPaired_6 rfl ?_
  refine z_icmp_eq 14 dX12_isPaired_7 rfl ⟨by omega, by omega⟩ ⟨by omega, by omega⟩ (fun c2 => ?_) (fun c2 => ?_)
  · skip
    refine z_iconst (0) dX12_isPaired_14 rfl ?_
    refine z_bret dX12_isPaired_15 rfl (Or.inl rfl) ⟨rfl, ?_⟩
    refine z_q0 kq ?_
    first | assumption | (intro q; exact q (by assumption))
  · skip
    refine z_iconst (1) dX12_isPaired_10 rfl ?_
    refine e_goto 15 dX12_isPaired_11 rfl ?_
    refine z_bret dX12_isPaired_15 rfl (Or.inr rfl) ⟨rfl, ?_⟩
    refine z_q1 kq ?_
    first | assumption | (intro q; exact q (by assumption))
set_option maxHeartbeats 400000 in
theorem zp_X12_fitOf {ad : mA} {dd : Nat} {h : mH} {Q : mQ} {m : Nat} {g : Int → Int} (hk : rk h m) (HB : rB h m g)  (d : Int) (d_r : -2147483648 ≤ d ∧ d < 2147483648) (u : Int) (u_r : -2147483648 ≤ u ∧ u < 2147483648) (p1 : inF g d u) (kq : Q (some (.int (zI (fitZ g d u)))) h) : mCal TB0 ad (dd + 2) M_X12_fitOf [.ref m, .int (zI d), .int (zI u)] h 0 0 Q := by
  refine ⟨Nat.le_of_ble_eq_true rfl, ?_⟩
  show mEv TB0 ad M_X12_fitOf (dd + 2) (0, 0) (mCal TB0 ad (dd + 1)) (fun v h' z => z.1 = 0 ∧ Q v h') 0 [some (.ref m), some (.int (zI d)), some (.int (zI u)), none] [] h (0, 0)
  have w1 := rB_n HB
  have w2 := rB_nd HB
  have w3 := rB_nu HB
  refine z_iconst (2) dX12_fitOf_0 rfl ?_
  refine e_aload_n dX12_fitOf_1 rfl ?_
  refine e_get (.ref (m + 11)) dX12_fitOf_2 tf_12_41 (rk_s hk) (congrArg va_rf (rk_r11 hk)) ?_
  refine e_iload_n dX12_fitOf_5 rfl ?_
  refine z_ild (dl g d) dX12_fitOf_6 (rk_a11 hk) (by decide) (by omega) (by omega) (rB_dl HB (by omega) (by omega)) ?_
  have y1 := wB_d (rB_w HB) (show 0 ≤ d by omega) (by omega)
  refine e_aload_n dX12_fitOf_7 rfl ?_
  refine e_get (.ref (m + 11)) dX12_fitOf_8 tf_12_41 (rk_s hk) (congrArg va_rf (rk_r11 hk)) ?_
  refine z_bipush (6) dX12_fitOf_11 rfl ?_
  refine e_iload_n dX12_fitOf_13 rfl ?_
  refine z_iadd dX12_fitOf_14 ?_
  refine z_ild (ul g u) dX12_fitOf_15 (rk_a11 hk) (by decide) (by omega) (by omega) (rB_ul HB (by omega) (by omega)) ?_
  have y2 := wB_u (rB_w HB) (show 0 ≤ u by omega) (by omega)
  refine e_callS [.int _, .int _] dX12_fitOf_16 tm_12_280 rfl (Nat.le_of_ble_eq_true rfl) (Nat.le_refl _) (Nat.le_refl _) rfl (zp_X12_apart (dl g d) ⟨by omega, by omega⟩ (ul g u) ⟨by omega, by omega⟩ (by omega) (by omega) ?_)
  have y3 := absI_s ((dl g d) - (ul g u))
  refine z_imul dX12_fitOf_19 ?_
  refine z_iconst (5) dX12_fitOf_20 rfl ?_
  refine e_aload_n dX12_fitOf_21 rfl ?_
  refine e_get (.ref (m + 12)) dX12_fitOf_22 tf_12_44 (rk_s hk) (congrArg va_rf (rk_r12 hk)) ?_
  refine e_iload_n dX12_fitOf_25 rfl ?_
  refine z_ild (ds g d) dX12_fitOf_26 (rk_a12 hk) (by decide) (by omega) (by omega) (rB_ds HB (by omega) (by omega)) ?_
  have y4 := wB_d (rB_w HB) (show 0 ≤ d by omega) (by omega)
  refine e_aload_n dX12_fitOf_27 rfl ?_
  refine e_get (.ref (m + 12)) dX12_fitOf_28 tf_12_44 (rk_s hk) (congrArg va_rf (rk_r12 hk)) ?_
  refine z_bipush (6) dX12_fitOf_31 rfl ?_
  refine e_iload_n dX12_fitOf_33 rfl ?_
  refine z_iadd dX12_fitOf_34 ?_
  refine z_ild (us g u) dX12_fitOf_35 (rk_a12 hk) (by decide) (by omega) (by omega) (rB_us HB (by omega) (by omega)) ?_
  have y5 := wB_u (rB_w HB) (show 0 ≤ u by omega) (by omega)
  refine e_callS [.int _, .int _] dX12_fitOf_36 tm_12_280 rfl (Nat.le_of_ble_eq_true rfl) (Nat.le_refl _) (Nat.le_refl _) rfl (zp_X12_apart (ds g d) ⟨by omega, by omega⟩ (us g u) ⟨by omega, by omega⟩ (by omega) (by omega) ?_)
  have y6 := absI_s ((ds g d) - (us g u))
  refine z_imul dX12_fitOf_39 ?_
  refine z_iadd dX12_fitOf_40 ?_
  refine e_aload_n dX12_fitOf_41 rfl ?_
  refine e_get (.ref (m + 14)) dX12_fitOf_42 tf_12_50 (rk_s hk) (congrArg va_rf (rk_r14 hk)) ?_
  refine e_iload_n dX12_fitOf_45 rfl ?_
  refine z_ild (dh g d) dX12_fitOf_46 (rk_a14 hk) (by decide) (by omega) (by omega) (rB_dh HB (by omega) (by omega)) ?_
  have y7 := wB_d (rB_w HB) (show 0 ≤ d by omega) (by omega)
  refine e_aload_n dX12_fitOf_47 rfl ?_
  refine e_get (.ref (m + 14)) dX12_fitOf_48 tf_12_50 (rk_s hk) (congrArg va_rf (rk_r14 hk)) ?_
  refine z_bipush (6) dX12_fitOf_51 rfl ?_
  refine e_iload_n dX12_fitOf_53 rfl ?_
  refine z_iadd dX12_fitOf_54 ?_
  refine z_ild (uh g u) dX12_fitOf_55 (rk_a14 hk) (by decide) (by omega) (by omega) (rB_uh HB (by omega) (by omega)) ?_
  have y8 := wB_u (rB_w HB) (show 0 ≤ u by omega) (by omega)
  refine z_icmp_ne 63 dX12_fitOf_56 rfl ⟨by omega, by omega⟩ ⟨by omega, by omega⟩ (fun c9 => ?_) (fun c9 => ?_)
  · skip
    refine z_bipush (12) dX12_fitOf_63 rfl ?_
    refine z_iadd dX12_fitOf_65 ?_
    refine e_istore_n (L' := [_, _, _, _]) dX12_fitOf_66 (Nat.le_of_ble_eq_true rfl) rfl ?_
    refine z_iconst (0) dX12_fitOf_67 rfl ?_
    refine z_bipush (30) dX12_fitOf_68 rfl ?_
    refine e_iload_n dX12_fitOf_70 rfl ?_
    refine z_isub dX12_fitOf_71 ?_
    refine e_callS [.int _, .int _] dX12_fitOf_72 tm_12_176 rfl (Nat.le_of_ble_eq_true rfl) (Nat.le_refl _) (Nat.le_refl _) rfl (zp_X12_greater 0 ⟨by omega, by omega⟩ (30 - (((2 * (absI ((dl g d) - (ul g u)))) + (5 * (absI ((ds g d) - (us g u))))) + 12)) ⟨by omega, by omega⟩ ?_)
    refine z_iret dX12_fitOf_75 rfl ⟨rfl, ?_⟩
    refine z_q kq ?_
    rw [fitZ_r]; first | rw [if_pos (by assumption)] | rw [if_neg (by assumption)]
  · skip
    refine z_iconst (0) dX12_fitOf_59 rfl ?_
    refine e_goto 65 dX12_fitOf_60 rfl ?_
    refine z_iadd dX12_fitOf_65 ?_
    refine e_istore_n (L' := [_, _, _, _]) dX12_fitOf_66 (Nat.le_of_ble_eq_true rfl) rfl ?_
    refine z_iconst (0) dX12_fitOf_67 rfl ?_
    refine z_bipush (30) dX12_fitOf_68 rfl ?_
    refine e_iload_n dX12_fitOf_70 rfl ?_
    refine z_isub dX12_fitOf_71 ?_
    refine e_callS [.int _, .int _] dX12_fitOf_72 tm_12_176 rfl (Nat.le_of_ble_eq_true rfl) (Nat.le_refl _) (Nat.le_refl _) rfl (zp_X12_greater 0 ⟨by omega, by omega⟩ (30 - (((2 * (absI ((dl g d) - (ul g u)))) + (5 * (absI ((ds g d) - (us g u))))) + 0)) ⟨by omega, by omega⟩ ?_)
    refine z_iret dX12_fitOf_75 rfl ⟨rfl, ?_⟩
    refine z_q kq ?_
    rw [fitZ_r]; first | rw [if_pos (by assumption)] | rw [if_neg (by assumption)]
set_option maxHeartbeats 400000 in
theorem zp_X12_powerOf {ad : mA} {dd : Nat} {h : mH} {Q : mQ} {m : Nat} {g : Int → Int} (hk : rk h m) (HB : rB h m g)  (d : Int) (d_r : -2147483648 ≤ d ∧ d < 2147483648) (u : Int) (u_r : -2147483648 ≤ u ∧ u < 2147483648) (p1 : inF g d u) (kq : Q (some (.int (zI (powW g d u 0)))) h) : mCal TB0 ad (dd + 3) M_X12_powerOf [.ref m, .int (zI d), .int (zI u)] h 0 0 Q := by
  refine ⟨Nat.le_of_ble_eq_true rfl, ?_⟩
  show mEv TB0 ad M_X12_powerOf (dd + 3) (0, 0) (mCal TB0 ad (dd + 2)) (fun v h' z => z.1 = 0 ∧ Q v h') 0 [some (.ref m), some (.int (zI d)), some (.int (zI u))] [] h (0, 0)
  have w1 := rB_n HB
  have w2 := rB_nd HB
  have w3 := rB_nu HB
  refine e_aload_n dX12_powerOf_0 rfl ?_
  refine e_iload_n dX12_powerOf_1 rfl ?_
  refine e_iload_n dX12_powerOf_2 rfl ?_
  refine e_callV [.int _, .int _] dX12_powerOf_3 tm_12_283 rfl (Nat.le_of_ble_eq_true rfl) (rk_s hk) (Nat.le_of_ble_eq_true rfl) (Nat.le_refl _) (Nat.le_refl _) rfl (zp_X12_fitOf hk HB d ⟨by omega, by omega⟩ u ⟨by omega, by omega⟩ (by omega) ?_)
  have y1 := fitZ_b g d u
  refine e_aload_n dX12_powerOf_6 rfl ?_
  refine e_get (.ref (m + 13)) dX12_powerOf_7 tf_12_47 (rk_s hk) (congrArg va_rf (rk_r13 hk)) ?_
  refine e_iload_n dX12_powerOf_10 rfl ?_
  refine z_ild (de g d) dX12_powerOf_11 (rk_a13 hk) (by decide) (by omega) (by omega) (rB_de HB (by omega) (by omega)) ?_
  have y2 := wB_d (rB_w HB) (show 0 ≤ d by omega) (by omega)
  refine z_iadd dX12_powerOf_12 ?_
  refine e_aload_n dX12_powerOf_13 rfl ?_
  refine e_get (.ref (m + 13)) dX12_powerOf_14 tf_12_47 (rk_s hk) (congrArg va_rf (rk_r13 hk)) ?_
  refine z_bipush (6) dX12_powerOf_17 rfl ?_
  refine e_iload_n dX12_powerOf_19 rfl ?_
  refine z_iadd dX12_powerOf_20 ?_
  refine z_ild (ue g u) dX12_powerOf_21 (rk_a13 hk) (by decide) (by omega) (by omega) (rB_ue HB (by omega) (by omega)) ?_
  have y3 := wB_u (rB_w HB) (show 0 ≤ u by omega) (by omega)
  refine z_iadd dX12_powerOf_22 ?_
  refine z_iret dX12_powerOf_23 rfl ⟨rfl, ?_⟩
  refine z_q kq ?_
  rw [powW_0 (rB_w HB) d u p1]
set_option maxHeartbeats 400000 in
theorem zp_X12_cuts {ad : mA} {dd : Nat} {h : mH} {Q : mQ} {m : Nat} {g : Int → Int} (hk : rk h m) (HB : rB h m g) (HM : rM h m g) (HC : rC h m g)  (d : Int) (d_r : -2147483648 ≤ d ∧ d < 2147483648) (c : Int) (c_r : -2147483648 ≤ c ∧ c < 2147483648) (p1 : 0 ≤ d ∧ d < nd g) (p2 : 0 ≤ c ∧ c < nc g) (kq : Q (some (.int (zI (bZ (cutW g d c 0))))) h) : mCal TB0 ad (dd + 4) M_X12_cuts [.ref m, .int (zI d), .int (zI c)] h 0 0 Q := by
  refine ⟨Nat.le_of_ble_eq_true rfl, ?_⟩
  show mEv TB0 ad M_X12_cuts (dd + 4) (0, 0) (mCal TB0 ad (dd + 3)) (fun v h' z => z.1 = 0 ∧ Q v h') 0 [some (.ref m), some (.int (zI d)), some (.int (zI c))] [] h (0, 0)
  have w1 := rB_n HB
  have w2 := rB_nd HB
  have w3 := rB_nu HB
  have w8 := rC_n HC
  have w5 := rC_f HC
  have w6 := wC_c (rC_w HC) p2.1 p2.2
  have w7 := upv_in p1.1 p1.2
  refine e_aload_n dX12_cuts_0 rfl ?_
  refine e_iload_n dX12_cuts_1 rfl ?_
  refine e_callV [.int _] dX12_cuts_2 tm_12_286 rfl (Nat.le_of_ble_eq_true rfl) (rk_s hk) (Nat.le_of_ble_eq_true rfl) (Nat.le_refl _) (Nat.le_refl _) rfl (zp_X12_isPaired hk HM d ⟨by omega, by omega⟩ (by omega) (by omega) ?_)
  have y1 := wM_d (rM_w HM) (show 0 ≤ d by omega) (by omega)
  refine z_ifb_eq 34 dX12_cuts_5 rfl (fun c2 => ?_) (fun c2 => ?_)
  · skip
    refine z_iconst (0) dX12_cuts_34 rfl ?_
    refine z_bret dX12_cuts_35 rfl (Or.inl rfl) ⟨rfl, ?_⟩
    refine z_q0 kq ?_
    first | exact ⟨by omega, by omega, by rw [w7]; omega⟩ | (rintro ⟨q1, q2, q3⟩; rw [w7] at q3; omega)
  · skip
    refine e_aload_n dX12_cuts_8 rfl ?_
    refine e_iload_n dX12_cuts_9 rfl ?_
    refine e_aload_n dX12_cuts_10 rfl ?_
    refine e_get (.ref (m + 15)) dX12_cuts_11 tf_12_53 (rk_s hk) (congrArg va_rf (rk_r15 hk)) ?_
    refine e_iload_n dX12_cuts_14 rfl ?_
    refine z_ild (dm g d) dX12_cuts_15 (rk_a15 hk) (by decide) (by omega) (by omega) (rM_d HM (by omega) (by omega)) ?_
    have y3 := wM_d (rM_w HM) (show 0 ≤ d by omega) (by omega)
    refine e_callV [.int _, .int _] dX12_cuts_16 tm_12_289 rfl (Nat.le_of_ble_eq_true rfl) (rk_s hk) (Nat.le_of_ble_eq_true rfl) (Nat.le_refl _) (Nat.le_refl _) rfl (zp_X12_powerOf hk HB d ⟨by omega, by omega⟩ (dm g d) ⟨by omega, by omega⟩ (by omega) ?_)
    have y4 := powW_0b (rB_w HB) d (dm g d) (by omega)
    have eP := powW_0 (rB_w HB) d (dm g d) (by omega)
    have fB := fitZ_b g d (dm g d)
    have e9 := wB_d (rB_w HB) p1.1 p1.2
    have e8 := wB_u (rB_w HB) (u := dm g d) (by omega) (by omega)
    refine e_aload_n dX12_cuts_19 rfl ?_
    refine z_bipush (63) dX12_cuts_20 rfl ?_
    refine e_iload_n dX12_cuts_22 rfl ?_
    refine z_iadd dX12_cuts_23 ?_
    refine e_callV [.int _] dX12_cuts_24 tm_12_267 rfl (Nat.le_of_ble_eq_true rfl) (rk_s hk) (Nat.le_of_ble_eq_true rfl) (Nat.le_refl _) (Nat.le_refl _) rfl (zp_X12_of hk (63 + c) ⟨by omega, by omega⟩ (by omega) (by omega) ?_)
    have eH := rC_ha HC p2.1 p2.2
    refine z_icmp_lt 34 dX12_cuts_27 rfl ⟨by omega, by omega⟩ ⟨by omega, by omega⟩ (fun c5 => ?_) (fun c5 => ?_)
    · skip
      refine z_iconst (0) dX12_cuts_34 rfl ?_
      refine z_bret dX12_cuts_35 rfl (Or.inl rfl) ⟨rfl, ?_⟩
      refine z_q0 kq ?_
      first | exact ⟨by omega, by omega, by rw [w7]; omega⟩ | (rintro ⟨q1, q2, q3⟩; rw [w7] at q3; omega)
    · skip
      refine z_iconst (1) dX12_cuts_30 rfl ?_
      refine e_goto 35 dX12_cuts_31 rfl ?_
      refine z_bret dX12_cuts_35 rfl (Or.inr rfl) ⟨rfl, ?_⟩
      refine z_q1 kq ?_
      first | exact ⟨by omega, by omega, by rw [w7]; omega⟩ | (rintro ⟨q1, q2, q3⟩; rw [w7] at q3; omega)
