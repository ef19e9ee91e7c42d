/-! NUMBERS AS Int: rows of the abstract machine over whole numbers -/
def zI (z : Int) : Int32 := Int32.ofInt z
abbrev inI (z : Int) : Prop := -2147483648 ≤ z ∧ z < 2147483648
theorem zI_toInt (x : Int32) : zI x.toInt = x := Int32.ofInt_toInt x
theorem toInt_zI {z : Int} (h : inI z) : (zI z).toInt = z := Int32.toInt_ofInt_of_le h.1 h.2
theorem inI_toInt (x : Int32) : inI x.toInt := ⟨x.le_toInt, x.toInt_lt⟩
theorem zI_ex (x : Int32) : ∃ z : Int, inI z ∧ x = zI z := ⟨x.toInt, inI_toInt x, (zI_toInt x).symm⟩
theorem zI_add (a b : Int) : zI a + zI b = zI (a + b) := (Int32.ofInt_add a b).symm
theorem zI_sub (a b : Int) : zI a - zI b = zI (a - b) := (Int32.ofInt_sub a b).symm
theorem zI_mul (a b : Int) : zI a * zI b = zI (a * b) := (Int32.ofInt_mul a b).symm
theorem zI_neg (a : Int) : - zI a = zI (-a) := (Int32.ofInt_neg a).symm
theorem zI_lt {a b : Int} (ha : inI a) (hb : inI b) : zI a < zI b ↔ a < b := by rw [Int32.lt_iff_toInt_lt, toInt_zI ha, toInt_zI hb]
theorem zI_le {a b : Int} (ha : inI a) (hb : inI b) : zI a ≤ zI b ↔ a ≤ b := by rw [Int32.le_iff_toInt_le, toInt_zI ha, toInt_zI hb]
theorem zI_eq {a b : Int} (ha : inI a) (hb : inI b) : zI a = zI b ↔ a = b := by rw [← Int32.toInt_inj, toInt_zI ha, toInt_zI hb]
theorem zI_0 : zI 0 = 0 := rfl
theorem zI_1 : zI 1 = 1 := rfl
theorem zI_nat (n : Nat) : zI (n : Int) = nI n := Int32.ofInt_eq_ofNat
theorem zI_nI {z : Int} (h : 0 ≤ z) : zI z = nI z.toNat := by rw [← zI_nat, Int.toNat_of_nonneg h]
theorem zI_clamp {z : Int} (h : 0 ≤ z) (h2 : z < 2147483648) : (zI z).toNatClampNeg = z.toNat := Int32.toNatClampNeg_ofInt_of_le (by omega) h2
theorem zI_in {z : Int} {n : Nat} (h : 0 ≤ z) (h2 : z < n) (hn : n < 2147483648) : vp_in (zI z) n := by rw [zI_nI h]; exact vp_in_nI (by omega) (by omega)
theorem zI_tdiv {a b : Int} (ha : inI a) (h0 : 0 < b) (hb : b < 2147483648) : zI a / zI b = zI (a.tdiv b) := by
  have hn : zI b ≠ -1 := by
    intro q
    have h2 := congrArg Int32.toInt q
    rw [toInt_zI ⟨by omega, hb⟩] at h2
    have h1 : (-1 : Int32).toInt = -1 := by decide
    omega
  rw [← Int32.toInt_inj, Int32.toInt_div_of_ne_right _ _ hn, toInt_zI ha, toInt_zI ⟨by omega, hb⟩]
  refine (toInt_zI ⟨?_, ?_⟩).symm
  · have := Int.natAbs_tdiv_le_natAbs a b
    omega
  · have := Int.natAbs_tdiv_le_natAbs a b
    rcases Int.lt_or_le a 0 with q | q
    · have h3 : 0 ≤ (-a).tdiv b := Int.tdiv_nonneg (by omega) (by omega)
      rw [Int.neg_tdiv] at h3
      omega
    · have h2 : a.tdiv b ≤ a := by rw [Int.tdiv_eq_ediv_of_nonneg q]; exact Int.ediv_le_self b q
      omega
theorem zI_div {a b : Int} (ha : 0 ≤ a) (ha2 : a < 2147483648) (h0 : 0 < b) (hb : b < 2147483648) : zI a / zI b = zI (a / b) := by rw [zI_tdiv ⟨by omega, ha2⟩ h0 hb, Int.tdiv_eq_ediv_of_nonneg ha]
theorem zI_rem {a b : Int} (ha : 0 ≤ a) (ha2 : a < 2147483648) (h0 : 0 < b) (hb : b < 2147483648) : zI a - zI a / zI b * zI b = zI (a % b) := by
  rw [zI_div ha ha2 h0 hb, zI_mul, zI_sub]
  congr 1
  have := Int.emod_def a b
  rw [this, Int.mul_comm]
theorem zI_ne0 {b : Int} (h0 : 0 < b) (hb : b < 2147483648) : ¬ zI b = 0 := fun q => by
  have := (zI_eq ⟨by omega, hb⟩ ⟨by omega, by omega⟩).mp (q.trans zI_0.symm)
  omega
theorem zI_trem {a b : Int} (ha : inI a) (h0 : 0 < b) (hb : b < 2147483648) : zI a - zI a / zI b * zI b = zI (a.tmod b) := by
  rw [zI_tdiv ha h0 hb, zI_mul, zI_sub]
  congr 1
  have := Int.tmod_def a b
  rw [this, Int.mul_comm]
/-- a truth as a number -/
def bZ (p : Prop) [Decidable p] : Int := if p then 1 else 0
theorem bZ_1 {p : Prop} [Decidable p] (h : p) : bZ p = 1 := if_pos h
theorem bZ_0 {p : Prop} [Decidable p] (h : ¬ p) : bZ p = 0 := if_neg h
theorem bZ_iff {p q : Prop} [Decidable p] [Decidable q] (h : p ↔ q) : bZ p = bZ q := by
  by_cases c : p
  · rw [bZ_1 c, bZ_1 (h.mp c)]
  · rw [bZ_0 c, bZ_0 (fun w => c (h.mpr w))]
theorem bZ_01 (p : Prop) [Decidable p] : bZ p = 0 ∨ bZ p = 1 := by unfold bZ; split <;> simp
theorem bZ_lo (p : Prop) [Decidable p] : 0 ≤ bZ p := by unfold bZ; split <;> simp
theorem bZ_hi (p : Prop) [Decidable p] : bZ p ≤ 1 := by unfold bZ; split <;> simp
theorem bZ_z {p : Prop} [Decidable p] : bZ p = 0 ↔ ¬ p := by unfold bZ; split <;> simp_all
theorem bZ_o {p : Prop} [Decidable p] : bZ p = 1 ↔ p := by unfold bZ; split <;> simp_all
theorem bZ_nar (p : Prop) [Decidable p] : narrow .boolean (.int (zI (bZ p))) = .int (zI (bZ p)) := by unfold bZ; split <;> rfl
/-- a number of the heap -/
def rI (h : mH) (a : Nat) (z : Int) : Int := (mI h a z.toNat).toInt
theorem rI_in (h : mH) (a : Nat) (z : Int) : inI (rI h a z) := inI_toInt _
theorem mI_r (h : mH) (a : Nat) (z : Int) : mI h a z.toNat = zI (rI h a z) := (zI_toInt _).symm
def sI (h : mH) (a : Nat) (z v : Int) : mH := wI h a z.toNat (zI v)
theorem mI_sI_ne {h : mH} {a b : Nat} {z v : Int} (hb : b ≠ a) : mI (sI h a z v) b = mI h b := by
  show (if b = a then _ else _) = _
  rw [if_neg hb]; rfl
theorem mI_sI (h : mH) (a b : Nat) (z v : Int) (k : Nat) : mI (sI h a z v) b k = if b = a ∧ k = z.toNat then zI v else mI h b k := by
  show (if b = a then upd (mI h b) z.toNat (zI v) else mI h b) k = _
  by_cases hb : b = a
  · subst hb
    by_cases hk : k = z.toNat
    · subst hk
      rw [if_pos rfl, if_pos ⟨rfl, rfl⟩]
      exact if_pos rfl
    · rw [if_pos rfl, if_neg (fun q => hk q.2)]
      exact if_neg hk
  · rw [if_neg hb, if_neg (fun q => hb q.1)]
theorem rI_eq {h h1 : mH} {a : Nat} {z v : Int} (e : h1 = sI h a z v) (hv : inI v) : rI h1 a z = v := by
  subst e; unfold rI; rw [mI_sI, if_pos ⟨rfl, rfl⟩, toInt_zI hv]
theorem rI_ne {h h1 : mH} {a b : Nat} {z v y : Int} (e : h1 = sI h a z v) (hb : ¬ (b = a ∧ y.toNat = z.toNat)) : rI h1 b y = rI h b y := by
  subst e; unfold rI; rw [mI_sI, if_neg hb]
theorem rI_if {h h1 : mH} {a : Nat} {z v y : Int} (e : h1 = sI h a z v) (hz : 0 ≤ z) (hy : 0 ≤ y) (hv : inI v) : rI h1 a y = if y = z then v else rI h a y := by
  by_cases c : y = z
  · subst c; rw [if_pos rfl]; exact rI_eq e hv
  · rw [if_neg c]; exact rI_ne e (by omega)
/-- the same shape -/
def eqS (h1 h : mH) : Prop := mE h1 = mE h ∧ mS h1 = mS h ∧ mR h1 = mR h
theorem eqS_r (h : mH) : eqS h h := ⟨rfl, rfl, rfl⟩
theorem eqS_t {h h1 h2 : mH} (a : eqS h2 h1) (b : eqS h1 h) : eqS h2 h := ⟨a.1.trans b.1, a.2.1.trans b.2.1, a.2.2.trans b.2.2⟩
theorem eqS_y {h h1 : mH} (a : eqS h1 h) : eqS h h1 := ⟨a.1.symm, a.2.1.symm, a.2.2.symm⟩
theorem eqS_w {h h1 : mH} {a : Nat} {z v : Int} (e : h1 = sI h a z v) : eqS h1 h := by subst e; exact ⟨rfl, rfl, rfl⟩
theorem cgS {h h1 : mH} {a : Nat} {v : Nat × Nat} (s : eqS h1 h) (e : mS h a = v) : mS h1 a = v := by rw [s.2.1]; exact e
theorem cgR {h h1 : mH} {a k : Nat} {v : Option Nat} (s : eqS h1 h) (e : mR h a k = v) : mR h1 a k = v := by rw [s.2.2]; exact e
theorem lk_q {A R : List (Nat × Nat × Nat)} {h h1 : mH} {x : Nat} (s : eqS h1 h) (k : lk A R h x) : lk A R h1 x := ⟨fun q hq => cgS s (k.1 q hq), fun q hq => cgR s (k.2 q hq)⟩
theorem rk_q {h h1 : mH} {m : Nat} (s : eqS h1 h) (k : rk h m) : rk h1 m := ⟨cgS s k.1, fun q hq => ⟨cgR s (k.2 q hq).1, cgS s (k.2 q hq).2⟩⟩
theorem bk_q {h h1 : mH} {x : Nat} (s : eqS h1 h) (k : bk h x) : bk h1 x := ⟨fun q hq => cgS s (k.1 q hq), fun q hq => cgR s (k.2 q hq)⟩
/-- all but S as it was -/
def frm (S : Nat → Nat → Prop) (h h1 : mH) : Prop := eqS h1 h ∧ (∀ a k, ¬ S a k → mI h1 a k = mI h a k) ∧ ∀ a k, ¬ S a k → mJ h1 a k = mJ h a k
theorem frm_s {S : Nat → Nat → Prop} {h h1 : mH} (f : frm S h h1) : eqS h1 h := f.1
theorem frm_r {S : Nat → Nat → Prop} {h h1 : mH} {a : Nat} {z : Int} (f : frm S h h1) (n : ¬ S a z.toNat) : rI h1 a z = rI h a z := by unfold rI; rw [f.2.1 _ _ n]
theorem frm_0 {S : Nat → Nat → Prop} (h : mH) : frm S h h := ⟨eqS_r h, fun _ _ _ => rfl, fun _ _ _ => rfl⟩
theorem frm_t {S : Nat → Nat → Prop} {h h1 h2 : mH} (f : frm S h h1) (g : frm S h1 h2) : frm S h h2 := ⟨eqS_t g.1 f.1, fun a k n => (g.2.1 a k n).trans (f.2.1 a k n), fun a k n => (g.2.2 a k n).trans (f.2.2 a k n)⟩
theorem frm_m {S S' : Nat → Nat → Prop} {h h1 : mH} (f : frm S h h1) (m : ∀ a k, S a k → S' a k) : frm S' h h1 := ⟨f.1, fun a k n => f.2.1 a k (fun q => n (m a k q)), fun a k n => f.2.2 a k (fun q => n (m a k q))⟩
theorem frm_w {S : Nat → Nat → Prop} {h h1 h2 : mH} {a : Nat} {z v : Int} (f : frm S h h1) (e : h2 = sI h1 a z v) (m : S a z.toNat) : frm S h h2 := by
  refine frm_t f ⟨eqS_w e, fun b k n => ?_, fun b k _ => ?_⟩
  · subst e
    rw [mI_sI, if_neg]
    rintro ⟨rfl, rfl⟩
    exact n m
  · subst e; rfl
section ZRow
variable {T : mTb} {ad : mA} {M : mM} {dp : Nat} {lim : Nat × Nat} {cal : mC} {Q : mZ} {pc : Nat} {L L' : mL} {h : mH} {zz : Nat × Nat} {r st : List Value}
theorem z_iconst {i : Int} (v : Int) (hd : decode (mMc M) pc = .ok (.iconst i, 1)) (hv : i = v) (k : mEv T ad M dp lim cal Q (pc + 1) L (.int (zI v) :: st) h zz) : mEv T ad M dp lim cal Q pc L st h zz := e_iconst _ hd (by rw [hv]; rfl) k
theorem z_bipush {i : Int} (v : Int) (hd : decode (mMc M) pc = .ok (.bipush i, 2)) (hv : (Int8.ofInt i).toInt32 = zI v) (k : mEv T ad M dp lim cal Q (pc + 2) L (.int (zI v) :: st) h zz) : mEv T ad M dp lim cal Q pc L st h zz := e_bipush _ hd hv k
theorem z_sipush {i : Int} (v : Int) (hd : decode (mMc M) pc = .ok (.sipush i, 3)) (hv : (Int16.ofInt i).toInt32 = zI v) (k : mEv T ad M dp lim cal Q (pc + 3) L (.int (zI v) :: st) h zz) : mEv T ad M dp lim cal Q pc L st h zz := e_sipush _ hd hv k
theorem z_ldc {i : Nat} {x : Int32} (v : Int) (hd : decode (mMc M) pc = .ok (.ldc i, 2)) (ht : tLdc T (mMo M) i = some (.inl x)) (hv : x = zI v) (k : mEv T ad M dp lim cal Q (pc + 2) L (.int (zI v) :: st) h zz) : mEv T ad M dp lim cal Q pc L st h zz := e_ldc hd ht (by rw [hv]; exact k)
theorem z_ldc_w {i : Nat} {x : Int32} (v : Int) (hd : decode (mMc M) pc = .ok (.ldc_w i, 3)) (ht : tLdc T (mMo M) i = some (.inl x)) (hv : x = zI v) (k : mEv T ad M dp lim cal Q (pc + 3) L (.int (zI v) :: st) h zz) : mEv T ad M dp lim cal Q pc L st h zz := e_ldc_w hd ht (by rw [hv]; exact k)
theorem z_iinc {i : Nat} {n x : Int} (hd : decode (mMc M) pc = .ok (.iinc i n, 3)) (hl : L[i]? = some (some (.int (zI x)))) (hL : mSet1 L i (.int (zI (x + n))) = L') (k : mEv T ad M dp lim cal Q (pc + 3) L' st h zz) : mEv T ad M dp lim cal Q pc L st h zz := e_iinc (zI (x + n)) hd hl (by rw [← zI_add]; rfl) hL k
theorem z_iadd {x y : Int} (hd : decode (mMc M) pc = .ok (.iadd, 1)) (k : mEv T ad M dp lim cal Q (pc + 1) L (.int (zI (x + y)) :: r) h zz) : mEv T ad M dp lim cal Q pc L (.int (zI y) :: .int (zI x) :: r) h zz := e_iadd hd (by rw [zI_add]; exact k)
theorem z_isub {x y : Int} (hd : decode (mMc M) pc = .ok (.isub, 1)) (k : mEv T ad M dp lim cal Q (pc + 1) L (.int (zI (x - y)) :: r) h zz) : mEv T ad M dp lim cal Q pc L (.int (zI y) :: .int (zI x) :: r) h zz := e_isub hd (by rw [zI_sub]; exact k)
theorem z_imul {x y : Int} (hd : decode (mMc M) pc = .ok (.imul, 1)) (k : mEv T ad M dp lim cal Q (pc + 1) L (.int (zI (x * y)) :: r) h zz) : mEv T ad M dp lim cal Q pc L (.int (zI y) :: .int (zI x) :: r) h zz := e_imul hd (by rw [zI_mul]; exact k)
theorem z_ineg {x : Int} (hd : decode (mMc M) pc = .ok (.ineg, 1)) (k : mEv T ad M dp lim cal Q (pc + 1) L (.int (zI (-x)) :: r) h zz) : mEv T ad M dp lim cal Q pc L (.int (zI x) :: r) h zz := e_ineg hd (by rw [zI_neg]; exact k)
theorem z_idiv {x y : Int} (hd : decode (mMc M) pc = .ok (.idiv, 1)) (h1 : 0 ≤ x) (h2 : x < 2147483648) (h3 : 0 < y) (h4 : y < 2147483648) (k : mEv T ad M dp lim cal Q (pc + 1) L (.int (zI (x / y)) :: r) h zz) : mEv T ad M dp lim cal Q pc L (.int (zI y) :: .int (zI x) :: r) h zz := e_idiv hd (zI_ne0 h3 h4) (by rw [zI_div h1 h2 h3 h4]; exact k)
theorem z_irem {x y : Int} (hd : decode (mMc M) pc = .ok (.irem, 1)) (h1 : 0 ≤ x) (h2 : x < 2147483648) (h3 : 0 < y) (h4 : y < 2147483648) (k : mEv T ad M dp lim cal Q (pc + 1) L (.int (zI (x % y)) :: r) h zz) : mEv T ad M dp lim cal Q pc L (.int (zI y) :: .int (zI x) :: r) h zz := e_irem hd (zI_ne0 h3 h4) (by rw [zI_rem h1 h2 h3 h4]; exact k)
theorem z_idivT {x y : Int} (hd : decode (mMc M) pc = .ok (.idiv, 1)) (h1 : inI x) (h3 : 0 < y) (h4 : y < 2147483648) (k : mEv T ad M dp lim cal Q (pc + 1) L (.int (zI (x.tdiv y)) :: r) h zz) : mEv T ad M dp lim cal Q pc L (.int (zI y) :: .int (zI x) :: r) h zz := e_idiv hd (zI_ne0 h3 h4) (by rw [zI_tdiv h1 h3 h4]; exact k)
theorem z_iremT {x y : Int} (hd : decode (mMc M) pc = .ok (.irem, 1)) (h1 : inI x) (h3 : 0 < y) (h4 : y < 2147483648) (k : mEv T ad M dp lim cal Q (pc + 1) L (.int (zI (x.tmod y)) :: r) h zz) : mEv T ad M dp lim cal Q pc L (.int (zI y) :: .int (zI x) :: r) h zz := e_irem hd (zI_ne0 h3 h4) (by rw [zI_trem h1 h3 h4]; exact k)
theorem inI_b (p : Prop) [Decidable p] : inI (bZ p) := by have := bZ_lo p; have := bZ_hi p; exact ⟨by omega, by omega⟩
theorem in_0 : inI 0 := ⟨by omega, by omega⟩
theorem z_icmp_eq {x y : Int} {off : Int} (t : Nat) (hd : decode (mMc M) pc = .ok (.if_icmp .eq off, 3)) (ht : (pc : Int) + off = (t : Int)) (ha : inI x) (hb : inI y) (kt : x = y → mEv T ad M dp lim cal Q t L r h zz) (kf : ¬ x = y → mEv T ad M dp lim cal Q (pc + 3) L r h zz) : mEv T ad M dp lim cal Q pc L (.int (zI y) :: .int (zI x) :: r) h zz := e_icmp_eq t hd ht (fun q => kt ((zI_eq ha hb).mp q)) (fun q => kf (fun w => q ((zI_eq ha hb).mpr w)))
theorem z_if_eq {x : Int} {off : Int} (t : Nat) (hd : decode (mMc M) pc = .ok (.ifCond .eq off, 3)) (ht : (pc : Int) + off = (t : Int)) (ha : inI x) (kt : x = 0 → mEv T ad M dp lim cal Q t L r h zz) (kf : ¬ x = 0 → mEv T ad M dp lim cal Q (pc + 3) L r h zz) : mEv T ad M dp lim cal Q pc L (.int (zI x) :: r) h zz := by
  have hb : inI 0 := ⟨by omega, by omega⟩
  rw [show mEv T ad M dp lim cal Q pc L (.int (zI x) :: r) h zz = mEv T ad M dp lim cal Q pc L (.int (zI x) :: r) h zz from rfl]
  exact e_if_eq t hd ht (fun q => kt ((zI_eq ha hb).mp q)) (fun q => kf (fun w => q ((zI_eq ha hb).mpr w)))
theorem z_icmp_ne {x y : Int} {off : Int} (t : Nat) (hd : decode (mMc M) pc = .ok (.if_icmp .ne off, 3)) (ht : (pc : Int) + off = (t : Int)) (ha : inI x) (hb : inI y) (kt : ¬ x = y → mEv T ad M dp lim cal Q t L r h zz) (kf : x = y → mEv T ad M dp lim cal Q (pc + 3) L r h zz) : mEv T ad M dp lim cal Q pc L (.int (zI y) :: .int (zI x) :: r) h zz := e_icmp_ne t hd ht (fun q => kt (fun w => q ((zI_eq ha hb).mpr w))) (fun q => kf ((zI_eq ha hb).mp q))
theorem z_if_ne {x : Int} {off : Int} (t : Nat) (hd : decode (mMc M) pc = .ok (.ifCond .ne off, 3)) (ht : (pc : Int) + off = (t : Int)) (ha : inI x) (kt : ¬ x = 0 → mEv T ad M dp lim cal Q t L r h zz) (kf : x = 0 → mEv T ad M dp lim cal Q (pc + 3) L r h zz) : mEv T ad M dp lim cal Q pc L (.int (zI x) :: r) h zz := by
  have hb : inI 0 := ⟨by omega, by omega⟩
  rw [show mEv T ad M dp lim cal Q pc L (.int (zI x) :: r) h zz = mEv T ad M dp lim cal Q pc L (.int (zI x) :: r) h zz from rfl]
  exact e_if_ne t hd ht (fun q => kt (fun w => q ((zI_eq ha hb).mpr w))) (fun q => kf ((zI_eq ha hb).mp q))
theorem z_icmp_lt {x y : Int} {off : Int} (t : Nat) (hd : decode (mMc M) pc = .ok (.if_icmp .lt off, 3)) (ht : (pc : Int) + off = (t : Int)) (ha : inI x) (hb : inI y) (kt : x < y → mEv T ad M dp lim cal Q t L r h zz) (kf : y ≤ x → mEv T ad M dp lim cal Q (pc + 3) L r h zz) : mEv T ad M dp lim cal Q pc L (.int (zI y) :: .int (zI x) :: r) h zz := e_icmp_lt t hd ht (fun q => kt ((zI_lt ha hb).mp q)) (fun q => kf (Int.not_lt.mp (fun w => q ((zI_lt ha hb).mpr w))))
theorem z_if_lt {x : Int} {off : Int} (t : Nat) (hd : decode (mMc M) pc = .ok (.ifCond .lt off, 3)) (ht : (pc : Int) + off = (t : Int)) (ha : inI x) (kt : x < 0 → mEv T ad M dp lim cal Q t L r h zz) (kf : 0 ≤ x → mEv T ad M dp lim cal Q (pc + 3) L r h zz) : mEv T ad M dp lim cal Q pc L (.int (zI x) :: r) h zz := by
  have hb : inI 0 := ⟨by omega, by omega⟩
  rw [show mEv T ad M dp lim cal Q pc L (.int (zI x) :: r) h zz = mEv T ad M dp lim cal Q pc L (.int (zI x) :: r) h zz from rfl]
  exact e_if_lt t hd ht (fun q => kt ((zI_lt ha hb).mp q)) (fun q => kf (Int.not_lt.mp (fun w => q ((zI_lt ha hb).mpr w))))
theorem z_icmp_ge {x y : Int} {off : Int} (t : Nat) (hd : decode (mMc M) pc = .ok (.if_icmp .ge off, 3)) (ht : (pc : Int) + off = (t : Int)) (ha : inI x) (hb : inI y) (kt : y ≤ x → mEv T ad M dp lim cal Q t L r h zz) (kf : x < y → mEv T ad M dp lim cal Q (pc + 3) L r h zz) : mEv T ad M dp lim cal Q pc L (.int (zI y) :: .int (zI x) :: r) h zz := e_icmp_ge t hd ht (fun q => kt ((zI_le hb ha).mp q)) (fun q => kf (Int.not_le.mp (fun w => q ((zI_le hb ha).mpr w))))
theorem z_if_ge {x : Int} {off : Int} (t : Nat) (hd : decode (mMc M) pc = .ok (.ifCond .ge off, 3)) (ht : (pc : Int) + off = (t : Int)) (ha : inI x) (kt : 0 ≤ x → mEv T ad M dp lim cal Q t L r h zz) (kf : x < 0 → mEv T ad M dp lim cal Q (pc + 3) L r h zz) : mEv T ad M dp lim cal Q pc L (.int (zI x) :: r) h zz := by
  have hb : inI 0 := ⟨by omega, by omega⟩
  rw [show mEv T ad M dp lim cal Q pc L (.int (zI x) :: r) h zz = mEv T ad M dp lim cal Q pc L (.int (zI x) :: r) h zz from rfl]
  exact e_if_ge t hd ht (fun q => kt ((zI_le hb ha).mp q)) (fun q => kf (Int.not_le.mp (fun w => q ((zI_le hb ha).mpr w))))
theorem z_icmp_gt {x y : Int} {off : Int} (t : Nat) (hd : decode (mMc M) pc = .ok (.if_icmp .gt off, 3)) (ht : (pc : Int) + off = (t : Int)) (ha : inI x) (hb : inI y) (kt : y < x → mEv T ad M dp lim cal Q t L r h zz) (kf : x ≤ y → mEv T ad M dp lim cal Q (pc + 3) L r h zz) : mEv T ad M dp lim cal Q pc L (.int (zI y) :: .int (zI x) :: r) h zz := e_icmp_gt t hd ht (fun q => kt ((zI_lt hb ha).mp q)) (fun q => kf (Int.not_lt.mp (fun w => q ((zI_lt hb ha).mpr w))))
theorem z_if_gt {x : Int} {off : Int} (t : Nat) (hd : decode (mMc M) pc = .ok (.ifCond .gt off, 3)) (ht : (pc : Int) + off = (t : Int)) (ha : inI x) (kt : 0 < x → mEv T ad M dp lim cal Q t L r h zz) (kf : x ≤ 0 → mEv T ad M dp lim cal Q (pc + 3) L r h zz) : mEv T ad M dp lim cal Q pc L (.int (zI x) :: r) h zz := by
  have hb : inI 0 := ⟨by omega, by omega⟩
  rw [show mEv T ad M dp lim cal Q pc L (.int (zI x) :: r) h zz = mEv T ad M dp lim cal Q pc L (.int (zI x) :: r) h zz from rfl]
  exact e_if_gt t hd ht (fun q => kt ((zI_lt hb ha).mp q)) (fun q => kf (Int.not_lt.mp (fun w => q ((zI_lt hb ha).mpr w))))
theorem z_icmp_le {x y : Int} {off : Int} (t : Nat) (hd : decode (mMc M) pc = .ok (.if_icmp .le off, 3)) (ht : (pc : Int) + off = (t : Int)) (ha : inI x) (hb : inI y) (kt : x ≤ y → mEv T ad M dp lim cal Q t L r h zz) (kf : y < x → mEv T ad M dp lim cal Q (pc + 3) L r h zz) : mEv T ad M dp lim cal Q pc L (.int (zI y) :: .int (zI x) :: r) h zz := e_icmp_le t hd ht (fun q => kt ((zI_le ha hb).mp q)) (fun q => kf (Int.not_le.mp (fun w => q ((zI_le ha hb).mpr w))))
theorem z_if_le {x : Int} {off : Int} (t : Nat) (hd : decode (mMc M) pc = .ok (.ifCond .le off, 3)) (ht : (pc : Int) + off = (t : Int)) (ha : inI x) (kt : x ≤ 0 → mEv T ad M dp lim cal Q t L r h zz) (kf : 0 < x → mEv T ad M dp lim cal Q (pc + 3) L r h zz) : mEv T ad M dp lim cal Q pc L (.int (zI x) :: r) h zz := by
  have hb : inI 0 := ⟨by omega, by omega⟩
  rw [show mEv T ad M dp lim cal Q pc L (.int (zI x) :: r) h zz = mEv T ad M dp lim cal Q pc L (.int (zI x) :: r) h zz from rfl]
  exact e_if_le t hd ht (fun q => kt ((zI_le ha hb).mp q)) (fun q => kf (Int.not_le.mp (fun w => q ((zI_le ha hb).mpr w))))
theorem z_ifb_eq {p : Prop} [Decidable p] {off : Int} (t : Nat) (hd : decode (mMc M) pc = .ok (.ifCond .eq off, 3)) (ht : (pc : Int) + off = (t : Int)) (kt : ¬ p → mEv T ad M dp lim cal Q t L r h zz) (kf : p → mEv T ad M dp lim cal Q (pc + 3) L r h zz) : mEv T ad M dp lim cal Q pc L (.int (zI (bZ p)) :: r) h zz := e_if_eq t hd ht (fun q => kt (bZ_z.mp ((zI_eq (inI_b p) in_0).mp q))) (fun q => kf (Decidable.byContradiction fun w => q (by rw [bZ_0 w]; rfl)))
theorem z_ifb_ne {p : Prop} [Decidable p] {off : Int} (t : Nat) (hd : decode (mMc M) pc = .ok (.ifCond .ne off, 3)) (ht : (pc : Int) + off = (t : Int)) (kt : p → mEv T ad M dp lim cal Q t L r h zz) (kf : ¬ p → mEv T ad M dp lim cal Q (pc + 3) L r h zz) : mEv T ad M dp lim cal Q pc L (.int (zI (bZ p)) :: r) h zz := e_if_ne t hd ht (fun q => kt (Decidable.byContradiction fun w => q (by rw [bZ_0 w]; rfl))) (fun q => kf (bZ_z.mp ((zI_eq (inI_b p) in_0).mp q)))
theorem z_get {a i c j : Nat} (v : Int) (hd : decode (mMc M) pc = .ok (.getfield i, 3)) (ht : tFld T (mMo M) i = some (c, j)) (hs : (mS h a).1 = c) (hy : mty c j = .int ∨ mty c j = .boolean) (hv : rI h a j = v) (k : mEv T ad M dp lim cal Q (pc + 3) L (.int (zI v) :: r) h zz) : mEv T ad M dp lim cal Q pc L (.ref a :: r) h zz := e_get (.int (zI v)) hd ht hs (by rw [← hv]; unfold mfv; rcases hy with q | q <;> rw [q] <;> exact congrArg Value.int (mI_r h a j)) k
theorem z_put {a i c j : Nat} {v : Int} (hd : decode (mMc M) pc = .ok (.putfield i, 3)) (ht : tFld T (mMo M) i = some (c, j)) (hs : (mS h a).1 = c) (hy : mty c j = .int) (hfin : (mTT c j).2.2.2 = false ∨ ((mMn M).name = "<init>" ∧ c = mMo M)) (k : ∀ h1, h1 = sI h a j v → mEv T ad M dp lim cal Q (pc + 3) L r h1 zz) : mEv T ad M dp lim cal Q pc L (.int (zI v) :: .ref a :: r) h zz := e_putI hd ht hs hy hfin (k _ rfl)
theorem z_putZ {a i c j : Nat} {v : Int} (hd : decode (mMc M) pc = .ok (.putfield i, 3)) (ht : tFld T (mMo M) i = some (c, j)) (hs : (mS h a).1 = c) (hy : mty c j = .boolean) (hx : v = 0 ∨ v = 1) (hfin : (mTT c j).2.2.2 = false ∨ ((mMn M).name = "<init>" ∧ c = mMo M)) (k : ∀ h1, h1 = sI h a j v → mEv T ad M dp lim cal Q (pc + 3) L r h1 zz) : mEv T ad M dp lim cal Q pc L (.int (zI v) :: .ref a :: r) h zz := e_putZ hd ht hs hy (by rcases hx with q | q <;> rw [q]; exact Or.inl rfl; exact Or.inr rfl) hfin (k _ rfl)
theorem z_ild {a n : Nat} {z : Int} (v : Int) (hd : decode (mMc M) pc = .ok (.iaload, 1)) (hs : mS h a = (14, n)) (hn : n < 2147483648) (h0 : 0 ≤ z) (h1 : z < n) (hv : rI h a z = v) (k : mEv T ad M dp lim cal Q (pc + 1) L (.int (zI v) :: r) h zz) : mEv T ad M dp lim cal Q pc L (.int (zI z) :: .ref a :: r) h zz := e_ild z.toNat hd hs (zI_in h0 h1 hn) (zI_clamp h0 (by omega)) (by rw [mI_r, hv]; exact k)
theorem z_bld {a n : Nat} {z : Int} (v : Int) (hd : decode (mMc M) pc = .ok (.baload, 1)) (hs : mS h a = (13, n)) (hn : n < 2147483648) (h0 : 0 ≤ z) (h1 : z < n) (hv : rI h a z = v) (k : mEv T ad M dp lim cal Q (pc + 1) L (.int (zI v) :: r) h zz) : mEv T ad M dp lim cal Q pc L (.int (zI z) :: .ref a :: r) h zz := e_bld z.toNat hd hs (zI_in h0 h1 hn) (zI_clamp h0 (by omega)) (by rw [mI_r, hv]; exact k)
theorem z_zld {a n : Nat} {z : Int} (v : Int) (hd : decode (mMc M) pc = .ok (.baload, 1)) (hs : mS h a = (16, n)) (hn : n < 2147483648) (h0 : 0 ≤ z) (h1 : z < n) (hv : rI h a z = v) (k : mEv T ad M dp lim cal Q (pc + 1) L (.int (zI v) :: r) h zz) : mEv T ad M dp lim cal Q pc L (.int (zI z) :: .ref a :: r) h zz := e_zld z.toNat hd hs (zI_in h0 h1 hn) (zI_clamp h0 (by omega)) (by rw [mI_r, hv]; exact k)
theorem z_ist {a n : Nat} {z v : Int} (hd : decode (mMc M) pc = .ok (.iastore, 1)) (hs : mS h a = (14, n)) (hn : n < 2147483648) (h0 : 0 ≤ z) (h1 : z < n) (k : ∀ h1, h1 = sI h a z v → mEv T ad M dp lim cal Q (pc + 1) L r h1 zz) : mEv T ad M dp lim cal Q pc L (.int (zI v) :: .int (zI z) :: .ref a :: r) h zz := e_ist z.toNat hd hs (zI_in h0 h1 hn) (zI_clamp h0 (by omega)) (k _ rfl)
theorem z_zst {a n : Nat} {z v : Int} (hd : decode (mMc M) pc = .ok (.bastore, 1)) (hs : mS h a = (16, n)) (hn : n < 2147483648) (h0 : 0 ≤ z) (h1 : z < n) (hv : v = 0 ∨ v = 1) (k : ∀ h1, h1 = sI h a z v → mEv T ad M dp lim cal Q (pc + 1) L r h1 zz) : mEv T ad M dp lim cal Q pc L (.int (zI v) :: .int (zI z) :: .ref a :: r) h zz := e_zst z.toNat hd hs (zI_in h0 h1 hn) (zI_clamp h0 (by omega)) (by rw [show vp_nar .boolean (zI v) = zI v by rcases hv with q | q <;> rw [q] <;> rfl]; exact k _ rfl)
theorem z_mmax {N : mM} {i : Nat} {x y : Int} (hd : decode (mMc M) pc = .ok (.invokestatic i, 3)) (ht : tMet T (mMo M) i = some (10, N)) (h8 : (r.map fun v => v.category).sum ≤ 8) (ha : inI x) (hb : inI y) (k : mEv T ad M dp lim cal Q (pc + 3) L (.int (zI (max x y)) :: r) h zz) : mEv T ad M dp lim cal Q pc L (.int (zI y) :: .int (zI x) :: r) h zz := e_mmax hd ht h8 (by
  rw [show (if zI x < zI y then zI y else zI x) = zI (max x y) by
    by_cases c : x < y
    · rw [if_pos ((zI_lt ha hb).mpr c), Int.max_eq_right (by omega)]
    · rw [if_neg (fun q => c ((zI_lt ha hb).mp q)), Int.max_eq_left (by omega)]]
  exact k)
theorem z_mmin {N : mM} {i : Nat} {x y : Int} (hd : decode (mMc M) pc = .ok (.invokestatic i, 3)) (ht : tMet T (mMo M) i = some (11, N)) (h8 : (r.map fun v => v.category).sum ≤ 8) (ha : inI x) (hb : inI y) (k : mEv T ad M dp lim cal Q (pc + 3) L (.int (zI (min x y)) :: r) h zz) : mEv T ad M dp lim cal Q pc L (.int (zI y) :: .int (zI x) :: r) h zz := e_mmin hd ht h8 (by
  rw [show (if zI y < zI x then zI y else zI x) = zI (min x y) by
    by_cases c : y < x
    · rw [if_pos ((zI_lt hb ha).mpr c), Int.min_eq_right (by omega)]
    · rw [if_neg (fun q => c ((zI_lt hb ha).mp q)), Int.min_eq_left (by omega)]]
  exact k)
def absI (x : Int) : Int := if 0 ≤ x then x else -x
theorem absI_hi {x : Int} {n : Int} (h1 : -n ≤ x) (h2 : x ≤ n) : 0 ≤ absI x ∧ absI x ≤ n := by unfold absI; split <;> omega
theorem z_mabs {N : mM} {i : Nat} {x : Int} (hd : decode (mMc M) pc = .ok (.invokestatic i, 3)) (ht : tMet T (mMo M) i = some (12, N)) (h8 : (r.map fun v => v.category).sum ≤ 8) (ha : inI x) (k : mEv T ad M dp lim cal Q (pc + 3) L (.int (zI (absI x)) :: r) h zz) : mEv T ad M dp lim cal Q pc L (.int (zI x) :: r) h zz := e_mabs hd ht h8 (by
  rw [show (if (0 : Int32) ≤ zI x then zI x else 0 - zI x) = zI (absI x) by
    unfold absI
    rw [← zI_0]
    by_cases c : 0 ≤ x
    · rw [if_pos ((zI_le in_0 ha).mpr c), if_pos c]
    · rw [if_neg (fun q => c ((zI_le in_0 ha).mp q)), if_neg c, zI_sub, Int.zero_sub]]
  exact k)
theorem z_alen {a kd n : Nat} (hd : decode (mMc M) pc = .ok (.arraylength, 1)) (hs : mS h a = (kd, n)) (hk : 13 ≤ kd ∧ kd < 21) (k : mEv T ad M dp lim cal Q (pc + 1) L (.int (zI n) :: r) h zz) : mEv T ad M dp lim cal Q pc L (.ref a :: r) h zz := e_alen hd hs hk (by rw [zI_nat] at k; exact k)
theorem z_iret {x : Int} (hd : decode (mMc M) pc = .ok (.ireturn, 1)) (hr : mMr M = some .int) (k : Q (some (.int (zI x))) h zz) : mEv T ad M dp lim cal Q pc L [.int (zI x)] h zz := e_iret hd hr k
theorem z_bret {x : Int} (hd : decode (mMc M) pc = .ok (.ireturn, 1)) (hr : mMr M = some .boolean) (hx : x = 0 ∨ x = 1) (k : Q (some (.int (zI x))) h zz) : mEv T ad M dp lim cal Q pc L [.int (zI x)] h zz := e_zret hd hr (by rcases hx with q | q <;> rw [q] <;> rfl) k
end ZRow
