/-! YEARS: the pure state -/
/-! YEARS: the state (g: the forge, q: day, earned, cuts, hot, oiled and worked downs and ups), each deed -/
def jnG (g : Int → Int) (d u : Int) : Int → Int := setG (setG g (27 + d) u) (57 + u) d
def ptG (g : Int → Int) (d : Int) : Int → Int := setG (setG g (57 + dm g d) (-1)) (27 + d) (-1)
def ctG (g : Int → Int) (d : Int) : Int → Int := setG (setG g (15 + d) (max 0 (de g d - 1))) (45 + dm g d) (max 0 (ue g (dm g d) - 1))
def dgG (g : Int → Int) (k : Int) : Int → Int := setG (setG g (15 + k) (min 20 (de g k + 5))) (3 + k) (dl g k - 1)
def ugG (g : Int → Int) (k : Int) : Int → Int := setG (setG g (45 + k) (min 20 (ue g k + 5))) (33 + k) (ul g k - 1)
abbrev rstP (g : Int → Int) (a b : Int) (i : Int) : Prop := (15 ≤ i ∧ i < 15 + nd g ∧ ¬ hasZ a (i - 15)) ∨ (45 ≤ i ∧ i < 45 + nu g ∧ ¬ hasZ b (i - 45))
def rstG (g : Int → Int) (a b : Int) : Int → Int := fun i => if rstP g a b i then max 0 (g i - 1) else g i
abbrev cRiv (g : Int → Int) (d u : Int) : Prop := inF g d u ∧ dm g d = -1 ∧ um g u = -1
abbrev cPai (g : Int → Int) (d : Int) : Prop := (0 ≤ d ∧ d < nd g) ∧ dm g d ≠ -1
abbrev cHea (g q : Int → Int) (d : Int) : Prop := cPai g d ∧ ¬ hasZ (q 3) d
abbrev cPar (g q : Int → Int) (d : Int) : Prop := cPai g d ∧ hasZ (q 3) d
abbrev cCut (g q : Int → Int) (d c : Int) : Prop := (cPai g d ∧ ¬ hasZ (q 3) d) ∧ (0 ≤ c ∧ c < nc g) ∧ ha g c ≤ powW g d (dm g d) 0
abbrev cGrD (g q : Int → Int) (k : Int) : Prop := (0 ≤ k ∧ k < nd g) ∧ 1 < dl g k ∧ ¬ (dm g k ≠ -1 ∧ hasZ (q 3) k)
abbrev cGrU (g q : Int → Int) (k : Int) : Prop := (0 ≤ k ∧ k < nu g) ∧ 1 < ul g k ∧ ¬ (um g k ≠ -1 ∧ hasZ (q 3) (um g k))
def b1 (d : Int) : Int := shlZ 1 d
def heaQ (q : Int → Int) (d : Int) : Int → Int := setG q 3 (orZ (q 3) (b1 d))
def cutQ (g q : Int → Int) (d c : Int) : Int → Int := setG (setG (setG (setG q 1 (q 1 + pr g c)) 2 (q 2 + 1)) 6 (orZ (q 6) (b1 d))) 7 (orZ (q 7) (b1 (dm g d)))
def oilQ (g q : Int → Int) (d : Int) : Int → Int := if dm g d = -1 then setG q 4 (orZ (q 4) (b1 d)) else setG (setG q 4 (orZ (q 4) (b1 d))) 5 (orZ (q 5) (b1 (dm g d)))
def dayQ (q : Int → Int) : Int → Int := fun i => if i = 0 then q 0 + 1 else if 3 ≤ i then 0 else q i
def wfQ (q : Int → Int) (n : Int) : Prop := (0 ≤ q 0 ∧ q 0 ≤ 99) ∧ (0 ≤ q 1 ∧ q 1 ≤ 20 * n) ∧ (0 ≤ q 2 ∧ q 2 ≤ n) ∧ (0 ≤ q 3 ∧ q 3 < 64) ∧ (0 ≤ q 4 ∧ q 4 < 64) ∧ (0 ≤ q 5 ∧ q 5 < 64) ∧ (0 ≤ q 6 ∧ q 6 < 64) ∧ (0 ≤ q 7 ∧ q 7 < 64) ∧ n ≤ 1000
/-- the class's Season -/
def isS (h : mH) (s : Nat) (q : Int → Int) (n : Int) : Prop := wfQ q n ∧ rI h s 1 = q 0 ∧ rI h s 2 = q 1 ∧ rI h s 3 = q 2 ∧ rI h s 4 = q 3 ∧ rI h s 5 = q 4 ∧ rI h s 6 = q 5 ∧ rI h s 7 = q 6 ∧ rI h s 8 = q 7
theorem isS_c {S : Nat → Nat → Prop} {h h1 : mH} {s : Nat} {q : Int → Int} {n : Int} (f : frm S h h1) (z : ∀ a k, a = s → 1 ≤ k → k ≤ 8 → ¬ S a k) (H : isS h s q n) : isS h1 s q n := by
  obtain ⟨w, a1, a2, a3, a4, a5, a6, a7, a8⟩ := H
  exact ⟨w, (frm_r f (z _ _ rfl (by omega) (by omega))).trans a1, (frm_r f (z _ _ rfl (by omega) (by omega))).trans a2, (frm_r f (z _ _ rfl (by omega) (by omega))).trans a3, (frm_r f (z _ _ rfl (by omega) (by omega))).trans a4, (frm_r f (z _ _ rfl (by omega) (by omega))).trans a5, (frm_r f (z _ _ rfl (by omega) (by omega))).trans a6, (frm_r f (z _ _ rfl (by omega) (by omega))).trans a7, (frm_r f (z _ _ rfl (by omega) (by omega))).trans a8⟩
/-- the reference's day -/
def rQ (h : mH) (m : Nat) (q : Int → Int) (n : Int) : Prop := wfQ q n ∧ rI h m 33 = q 0 ∧ rI h m 34 = q 1 ∧ rI h m 35 = q 2 ∧ rI h m 36 = q 3 ∧ rI h m 37 = q 4 + 64 * q 5 ∧ rI h m 38 = q 6 + 64 * q 7
theorem rQ_c {S : Nat → Nat → Prop} {h h1 : mH} {s : Nat} {q : Int → Int} {n : Int} (f : frm S h h1) (z : ∀ a k, a = s → 33 ≤ k → k ≤ 38 → ¬ S a k) (H : rQ h s q n) : rQ h1 s q n := by
  obtain ⟨w, a1, a2, a3, a4, a5, a6⟩ := H
  exact ⟨w, (frm_r f (z _ _ rfl (by omega) (by omega))).trans a1, (frm_r f (z _ _ rfl (by omega) (by omega))).trans a2, (frm_r f (z _ _ rfl (by omega) (by omega))).trans a3, (frm_r f (z _ _ rfl (by omega) (by omega))).trans a4, (frm_r f (z _ _ rfl (by omega) (by omega))).trans a5, (frm_r f (z _ _ rfl (by omega) (by omega))).trans a6⟩
/-! bits of 12 -/
theorem bit_lo {x y k : Int} (hx : 0 ≤ x ∧ x < 64) (hy : 0 ≤ y) (hk : 0 ≤ k ∧ k < 6) : hasZ (x + 64 * y) k ↔ hasZ x k := by
  unfold hasZ
  rw [show (x + 64 * y).toNat = 2 ^ 6 * y.toNat + x.toNat by omega, Nat.testBit_two_pow_mul_add _ (by omega), if_pos (by omega)]
theorem bit_hi {x y k : Int} (hx : 0 ≤ x ∧ x < 64) (hy : 0 ≤ y) (hk : 0 ≤ k ∧ k < 6) : hasZ (x + 64 * y) (6 + k) ↔ hasZ y k := by
  unfold hasZ
  rw [show (x + 64 * y).toNat = 2 ^ 6 * y.toNat + x.toNat by omega, Nat.testBit_two_pow_mul_add _ (by omega), if_neg (by omega), show (6 + k).toNat - 6 = k.toNat by omega]
theorem b1_n {k : Int} : (b1 k).toNat = 2 ^ k.toNat := by
  unfold b1 shlZ
  rw [Int.toNat_natCast, show (1 : Int).toNat = 1 from rfl, Nat.one_mul]
theorem b1_b {k : Int} (h : k < 6) : 1 ≤ b1 k ∧ b1 k < 64 := by
  have := shlZ_b 1 k
  unfold b1
  omega
theorem or_b {x k : Int} (hx : x < 64) (h : k < 6) : 0 ≤ orZ x (b1 k) ∧ orZ x (b1 k) < 64 := by
  have := orZ_b x (b1 k)
  have := b1_b h
  omega
theorem or_lo {x y k : Int} (hx : 0 ≤ x ∧ x < 64) (hy : 0 ≤ y) (hk : 0 ≤ k ∧ k < 6) : orZ (x + 64 * y) (b1 k) = orZ x (b1 k) + 64 * y := by
  have hb := or_b hx.2 hk.2
  unfold orZ at hb ⊢
  have h2 : x.toNat ||| (b1 k).toNat < 2 ^ 6 := by omega
  rw [show ((x.toNat ||| (b1 k).toNat : Nat) : Int) + 64 * y = ((2 ^ 6 * y.toNat + (x.toNat ||| (b1 k).toNat) : Nat) : Int) by omega]
  congr 1
  rw [show (x + 64 * y).toNat = 2 ^ 6 * y.toNat + x.toNat by omega]
  apply Nat.eq_of_testBit_eq
  intro i
  rw [Nat.testBit_or, Nat.testBit_two_pow_mul_add _ (by omega), Nat.testBit_two_pow_mul_add _ h2, b1_n, Nat.testBit_two_pow]
  by_cases c : i < 6
  · rw [if_pos c, if_pos c, Nat.testBit_or, Nat.testBit_two_pow]
  · rw [if_neg c, if_neg c, decide_eq_false (by omega), Bool.or_false]
theorem or_hi {x y k : Int} (hx : 0 ≤ x ∧ x < 64) (hy : 0 ≤ y ∧ y < 64) (hk : 0 ≤ k ∧ k < 6) : orZ (x + 64 * y) (b1 (6 + k)) = x + 64 * orZ y (b1 k) := by
  have hb := or_b hy.2 hk.2
  unfold orZ at hb ⊢
  rw [show x + 64 * ((y.toNat ||| (b1 k).toNat : Nat) : Int) = ((2 ^ 6 * (y.toNat ||| (b1 k).toNat) + x.toNat : Nat) : Int) by omega]
  congr 1
  rw [show (x + 64 * y).toNat = 2 ^ 6 * y.toNat + x.toNat by omega]
  apply Nat.eq_of_testBit_eq
  intro i
  rw [Nat.testBit_or, Nat.testBit_two_pow_mul_add _ (by omega), Nat.testBit_two_pow_mul_add _ (by omega), b1_n, b1_n, Nat.testBit_two_pow]
  by_cases c : i < 6
  · rw [if_pos c, if_pos c, decide_eq_false (by omega), Bool.or_false]
  · rw [if_neg c, if_neg c, Nat.testBit_or, Nat.testBit_two_pow]
    congr 1
    rw [decide_eq_decide]; omega
theorem orZ_or (a b c : Int) : orZ (orZ a b) c = orZ a (orZ b c) := by
  unfold orZ
  rw [Int.toNat_natCast, Int.toNat_natCast, Nat.or_assoc]
theorem or_has {x y k : Int} : hasZ (orZ x y) k ↔ hasZ x k ∨ hasZ y k := by
  unfold hasZ orZ
  rw [Int.toNat_natCast, Nat.testBit_or, Bool.or_eq_true]
theorem or_2 {x y x' y' : Int} (hx : 0 ≤ x ∧ x < 64) (hy : 0 ≤ y ∧ y < 64) (hx' : 0 ≤ x' ∧ x' < 64) (hy' : 0 ≤ y' ∧ y' < 64) : orZ (x + 64 * y) (x' + 64 * y') = orZ x x' + 64 * orZ y y' := by
  have h2 : x.toNat ||| x'.toNat < 2 ^ 6 := Nat.or_lt_two_pow (by omega) (by omega)
  unfold orZ
  rw [show ((x.toNat ||| x'.toNat : Nat) : Int) + 64 * ((y.toNat ||| y'.toNat : Nat) : Int) = ((2 ^ 6 * (y.toNat ||| y'.toNat) + (x.toNat ||| x'.toNat) : Nat) : Int) by omega]
  congr 1
  rw [show (x + 64 * y).toNat = 2 ^ 6 * y.toNat + x.toNat by omega, show (x' + 64 * y').toNat = 2 ^ 6 * y'.toNat + x'.toNat by omega]
  apply Nat.eq_of_testBit_eq
  intro i
  rw [Nat.testBit_or, Nat.testBit_two_pow_mul_add _ (by omega), Nat.testBit_two_pow_mul_add _ (by omega), Nat.testBit_two_pow_mul_add _ h2]
  by_cases c : i < 6
  · rw [if_pos c, if_pos c, if_pos c, Nat.testBit_or]
  · rw [if_neg c, if_neg c, if_neg c, Nat.testBit_or]
/-! the forge stays sound -/
theorem wfB_m {g : Int → Int} (w : wfB g) {k v : Int} (h : (27 ≤ k ∧ k < 33) ∨ (57 ≤ k ∧ k < 63)) : wfB (setG g k v) := by
  have wn := wB_n w
  refine ⟨by rw [nd_set (by omega)]; exact w.1, by rw [nu_set (by omega)]; exact w.2.1, fun i a c => ?_, fun i a c => ?_⟩
  · rw [nd_set (by omega)] at c
    rw [dl_set, ds_set, de_set, dh_set, if_neg (by omega), if_neg (by omega), if_neg (by omega), if_neg (by omega)]
    exact wB_d w a c
  · rw [nu_set (by omega)] at c
    rw [ul_set, us_set, ue_set, uh_set, if_neg (by omega), if_neg (by omega), if_neg (by omega), if_neg (by omega)]
    exact wB_u w a c
theorem wfC_m {g : Int → Int} (w : wfC g) {k v : Int} (h : 3 ≤ k ∧ k < 63) : wfC (setG g k v) := by
  refine ⟨by rw [nc_set (by omega)]; exact w.1, fun i a c => ?_⟩
  rw [nc_set (by omega)] at c
  rw [ha_set, pr_set, dy_set, if_neg (by omega), if_neg (by omega), if_neg (by omega)]
  exact wC_c w a c
theorem wfM_jn {g : Int → Int} (wb : wfB g) (w : wfM g) {d u : Int} (h : cRiv g d u) : wfM (jnG g d u) := by
  have wn := wB_n wb
  obtain ⟨⟨h1, h2⟩, h3, h4⟩ := h
  unfold jnG
  refine ⟨fun i a c => ?_, fun i a c => ?_⟩
  · rw [nd_set (by omega), nd_set (by omega), nu_set (by omega), nu_set (by omega), dm_set, dm_set, if_neg (by omega)]
    by_cases q : i = d
    · subst q
      rw [if_pos rfl, um_set, if_pos rfl]
      omega
    · rw [if_neg (by omega)]
      rcases wM_d w a c with z | z
      · exact Or.inl z
      · have n : dm g i ≠ u := fun e => by rw [e] at z; omega
        rw [um_set, um_set, if_neg (by omega), if_neg (by omega)]
        exact Or.inr z
  · rw [nd_set (by omega), nd_set (by omega), nu_set (by omega), nu_set (by omega), um_set, um_set]
    by_cases q : i = u
    · subst q
      rw [if_pos rfl, dm_set, dm_set, if_neg (by omega), if_pos rfl]
      omega
    · rw [if_neg (by omega), if_neg (by omega)]
      rcases wM_u w a c with z | z
      · exact Or.inl z
      · have n : um g i ≠ d := fun e => by rw [e] at z; omega
        rw [dm_set, dm_set, if_neg (by omega), if_neg (by omega)]
        exact Or.inr z
theorem wfM_pt {g : Int → Int} (wb : wfB g) (w : wfM g) {d : Int} (h : cPai g d) : wfM (ptG g d) := by
  have wn := wB_n wb
  obtain ⟨h1, h2⟩ := h
  have hd := wM_d w h1.1 (by omega)
  unfold ptG
  refine ⟨fun i a c => ?_, fun i a c => ?_⟩
  · rw [nd_set (by omega), nd_set (by omega), nu_set (by omega), nu_set (by omega), dm_set, dm_set]
    by_cases q : i = d
    · subst q
      rw [if_pos rfl]
      exact Or.inl rfl
    · rw [if_neg (by omega), if_neg (by omega)]
      rcases wM_d w a c with z | z
      · exact Or.inl z
      · have n : dm g i ≠ dm g d := fun e => by rw [e] at z; omega
        rw [um_set, um_set, if_neg (by omega), if_neg (by omega)]
        exact Or.inr z
  · rw [nd_set (by omega), nd_set (by omega), nu_set (by omega), nu_set (by omega), um_set, um_set, if_neg (by omega)]
    by_cases q : i = dm g d
    · subst q
      rw [if_pos rfl]
      exact Or.inl rfl
    · rw [if_neg (by omega)]
      rcases wM_u w a c with z | z
      · exact Or.inl z
      · have n : um g i ≠ d := fun e => by rw [e] at z; omega
        rw [dm_set, dm_set, if_neg (by omega), if_neg (by omega)]
        exact Or.inr z
theorem isF_setdl {h h1 : mH} {f : Nat} {g : Int → Int} (H : isF h f g) {d v : Int} (e : h1 = sI h (f + 2) d v) (h0 : 0 ≤ d) (h1' : d < nd g) (v0 : 1 ≤ v) (v1 : v ≤ 20) : isF h1 f (setG g (3 + d) v) := by
  have wn := isF_n H
  have fr := frm_1 e
  have w := isF_w H
  refine ⟨⟨wfB_dl w.1 h0 h1' v0 v1, wfM_dl w.2.1 h0 (by omega), wfC_dl w.2.2 h0 (by omega)⟩, ⟨?_, ?_, ?_⟩, fun i a c => ?_, fun i a c => ?_, fun i a c => ?_, fun i a c => ?_⟩
  · rw [nd_set (by omega), frm_r fr (by omega)]; exact isF_nd H
  · rw [nu_set (by omega), frm_r fr (by omega)]; exact isF_nu H
  · rw [nc_set (by omega), frm_r fr (by omega)]; exact isF_nc H
  · rw [nd_set (by omega)] at c
    exact ⟨by
      rw [dl_set]
      by_cases q : i = d
      · subst q; rw [if_pos rfl]; exact rI_eq e ⟨by omega, by omega⟩
      · rw [if_neg (by omega), rI_ne e (by omega)]; exact isF_dl H a c,
    by
      rw [ds_set, if_neg (by omega), frm_r fr (by omega)]; exact isF_ds H a c,
    by
      rw [de_set, if_neg (by omega), frm_r fr (by omega)]; exact isF_de H a c,
    by
      rw [dh_set, if_neg (by omega), frm_r fr (by omega)]; exact isF_dh H a c⟩
  · rw [nu_set (by omega)] at c
    exact ⟨by
      rw [ul_set, if_neg (by omega), frm_r fr (by omega)]; exact isF_ul H a c,
    by
      rw [us_set, if_neg (by omega), frm_r fr (by omega)]; exact isF_us H a c,
    by
      rw [ue_set, if_neg (by omega), frm_r fr (by omega)]; exact isF_ue H a c,
    by
      rw [uh_set, if_neg (by omega), frm_r fr (by omega)]; exact isF_uh H a c⟩
  · exact ⟨by rw [dm_set, if_neg (by omega), frm_r fr (by omega)]; exact isF_dm H a c, by rw [um_set, if_neg (by omega), frm_r fr (by omega)]; exact isF_um H a c⟩
  · rw [nc_set (by omega)] at c
    exact ⟨by rw [ha_set, if_neg (by omega), frm_r fr (by omega)]; exact isF_ha H a c, by rw [pr_set, if_neg (by omega), frm_r fr (by omega)]; exact isF_pr H a c, by rw [dy_set, if_neg (by omega), frm_r fr (by omega)]; exact isF_dy H a c⟩
theorem isF_setde {h h1 : mH} {f : Nat} {g : Int → Int} (H : isF h f g) {d v : Int} (e : h1 = sI h (f + 4) d v) (h0 : 0 ≤ d) (h1' : d < nd g) (v0 : 0 ≤ v) (v1 : v ≤ 20) : isF h1 f (setG g (15 + d) v) := by
  have wn := isF_n H
  have fr := frm_1 e
  have w := isF_w H
  refine ⟨⟨wfB_de w.1 h0 h1' v0 v1, wfM_de w.2.1 h0 (by omega), wfC_de w.2.2 h0 (by omega)⟩, ⟨?_, ?_, ?_⟩, fun i a c => ?_, fun i a c => ?_, fun i a c => ?_, fun i a c => ?_⟩
  · rw [nd_set (by omega), frm_r fr (by omega)]; exact isF_nd H
  · rw [nu_set (by omega), frm_r fr (by omega)]; exact isF_nu H
  · rw [nc_set (by omega), frm_r fr (by omega)]; exact isF_nc H
  · rw [nd_set (by omega)] at c
    exact ⟨by
      rw [dl_set, if_neg (by omega), frm_r fr (by omega)]; exact isF_dl H a c,
    by
      rw [ds_set, if_neg (by omega), frm_r fr (by omega)]; exact isF_ds H a c,
    by
      rw [de_set]
      by_cases q : i = d
      · subst q; rw [if_pos rfl]; exact rI_eq e ⟨by omega, by omega⟩
      · rw [if_neg (by omega), rI_ne e (by omega)]; exact isF_de H a c,
    by
      rw [dh_set, if_neg (by omega), frm_r fr (by omega)]; exact isF_dh H a c⟩
  · rw [nu_set (by omega)] at c
    exact ⟨by
      rw [ul_set, if_neg (by omega), frm_r fr (by omega)]; exact isF_ul H a c,
    by
      rw [us_set, if_neg (by omega), frm_r fr (by omega)]; exact isF_us H a c,
    by
      rw [ue_set, if_neg (by omega), frm_r fr (by omega)]; exact isF_ue H a c,
    by
      rw [uh_set, if_neg (by omega), frm_r fr (by omega)]; exact isF_uh H a c⟩
  · exact ⟨by rw [dm_set, if_neg (by omega), frm_r fr (by omega)]; exact isF_dm H a c, by rw [um_set, if_neg (by omega), frm_r fr (by omega)]; exact isF_um H a c⟩
  · rw [nc_set (by omega)] at c
    exact ⟨by rw [ha_set, if_neg (by omega), frm_r fr (by omega)]; exact isF_ha H a c, by rw [pr_set, if_neg (by omega), frm_r fr (by omega)]; exact isF_pr H a c, by rw [dy_set, if_neg (by omega), frm_r fr (by omega)]; exact isF_dy H a c⟩
theorem isF_setul {h h1 : mH} {f : Nat} {g : Int → Int} (H : isF h f g) {d v : Int} (e : h1 = sI h (f + 8) d v) (h0 : 0 ≤ d) (h1' : d < nu g) (v0 : 1 ≤ v) (v1 : v ≤ 20) : isF h1 f (setG g (33 + d) v) := by
  have wn := isF_n H
  have fr := frm_1 e
  have w := isF_w H
  refine ⟨⟨wfB_ul w.1 h0 h1' v0 v1, wfM_ul w.2.1 h0 (by omega), wfC_ul w.2.2 h0 (by omega)⟩, ⟨?_, ?_, ?_⟩, fun i a c => ?_, fun i a c => ?_, fun i a c => ?_, fun i a c => ?_⟩
  · rw [nd_set (by omega), frm_r fr (by omega)]; exact isF_nd H
  · rw [nu_set (by omega), frm_r fr (by omega)]; exact isF_nu H
  · rw [nc_set (by omega), frm_r fr (by omega)]; exact isF_nc H
  · rw [nd_set (by omega)] at c
    exact ⟨by
      rw [dl_set, if_neg (by omega), frm_r fr (by omega)]; exact isF_dl H a c,
    by
      rw [ds_set, if_neg (by omega), frm_r fr (by omega)]; exact isF_ds H a c,
    by
      rw [de_set, if_neg (by omega), frm_r fr (by omega)]; exact isF_de H a c,
    by
      rw [dh_set, if_neg (by omega), frm_r fr (by omega)]; exact isF_dh H a c⟩
  · rw [nu_set (by omega)] at c
    exact ⟨by
      rw [ul_set]
      by_cases q : i = d
      · subst q; rw [if_pos rfl]; exact rI_eq e ⟨by omega, by omega⟩
      · rw [if_neg (by omega), rI_ne e (by omega)]; exact isF_ul H a c,
    by
      rw [us_set, if_neg (by omega), frm_r fr (by omega)]; exact isF_us H a c,
    by
      rw [ue_set, if_neg (by omega), frm_r fr (by omega)]; exact isF_ue H a c,
    by
      rw [uh_set, if_neg (by omega), frm_r fr (by omega)]; exact isF_uh H a c⟩
  · exact ⟨by rw [dm_set, if_neg (by omega), frm_r fr (by omega)]; exact isF_dm H a c, by rw [um_set, if_neg (by omega), frm_r fr (by omega)]; exact isF_um H a c⟩
  · rw [nc_set (by omega)] at c
    exact ⟨by rw [ha_set, if_neg (by omega), frm_r fr (by omega)]; exact isF_ha H a c, by rw [pr_set, if_neg (by omega), frm_r fr (by omega)]; exact isF_pr H a c, by rw [dy_set, if_neg (by omega), frm_r fr (by omega)]; exact isF_dy H a c⟩
theorem isF_setue {h h1 : mH} {f : Nat} {g : Int → Int} (H : isF h f g) {d v : Int} (e : h1 = sI h (f + 10) d v) (h0 : 0 ≤ d) (h1' : d < nu g) (v0 : 0 ≤ v) (v1 : v ≤ 20) : isF h1 f (setG g (45 + d) v) := by
  have wn := isF_n H
  have fr := frm_1 e
  have w := isF_w H
  refine ⟨⟨wfB_ue w.1 h0 h1' v0 v1, wfM_ue w.2.1 h0 (by omega), wfC_ue w.2.2 h0 (by omega)⟩, ⟨?_, ?_, ?_⟩, fun i a c => ?_, fun i a c => ?_, fun i a c => ?_, fun i a c => ?_⟩
  · rw [nd_set (by omega), frm_r fr (by omega)]; exact isF_nd H
  · rw [nu_set (by omega), frm_r fr (by omega)]; exact isF_nu H
  · rw [nc_set (by omega), frm_r fr (by omega)]; exact isF_nc H
  · rw [nd_set (by omega)] at c
    exact ⟨by
      rw [dl_set, if_neg (by omega), frm_r fr (by omega)]; exact isF_dl H a c,
    by
      rw [ds_set, if_neg (by omega), frm_r fr (by omega)]; exact isF_ds H a c,
    by
      rw [de_set, if_neg (by omega), frm_r fr (by omega)]; exact isF_de H a c,
    by
      rw [dh_set, if_neg (by omega), frm_r fr (by omega)]; exact isF_dh H a c⟩
  · rw [nu_set (by omega)] at c
    exact ⟨by
      rw [ul_set, if_neg (by omega), frm_r fr (by omega)]; exact isF_ul H a c,
    by
      rw [us_set, if_neg (by omega), frm_r fr (by omega)]; exact isF_us H a c,
    by
      rw [ue_set]
      by_cases q : i = d
      · subst q; rw [if_pos rfl]; exact rI_eq e ⟨by omega, by omega⟩
      · rw [if_neg (by omega), rI_ne e (by omega)]; exact isF_ue H a c,
    by
      rw [uh_set, if_neg (by omega), frm_r fr (by omega)]; exact isF_uh H a c⟩
  · exact ⟨by rw [dm_set, if_neg (by omega), frm_r fr (by omega)]; exact isF_dm H a c, by rw [um_set, if_neg (by omega), frm_r fr (by omega)]; exact isF_um H a c⟩
  · rw [nc_set (by omega)] at c
    exact ⟨by rw [ha_set, if_neg (by omega), frm_r fr (by omega)]; exact isF_ha H a c, by rw [pr_set, if_neg (by omega), frm_r fr (by omega)]; exact isF_pr H a c, by rw [dy_set, if_neg (by omega), frm_r fr (by omega)]; exact isF_dy H a c⟩
/-- other mates -/
theorem isF_mates {h h1 : mH} {f : Nat} {g g1 : Int → Int} (H : isF h f g) (s : frm (fun a _ => a = f + 6 ∨ a = f + 12) h h1) (hg : ∀ i, (i < 27 ∨ (33 ≤ i ∧ i < 57) ∨ 63 ≤ i) → g1 i = g i) (w : wfM g1) (hd : ∀ i : Int, 0 ≤ i → i < 6 → rI h1 (f + 6) i = dm g1 i) (hu : ∀ i : Int, 0 ≤ i → i < 6 → rI h1 (f + 12) i = um g1 i) : isF h1 f g1 := by
  have wn := isF_n H
  have w0 := isF_w H
  have e0 : nd g1 = nd g := hg 0 (by omega)
  have e1 : nu g1 = nu g := hg 1 (by omega)
  have e2 : nc g1 = nc g := hg 2 (by omega)
  have a1 : ∀ i, 0 ≤ i → i < 6 → dl g1 i = dl g i := fun i a c => hg _ (by omega)
  have a2 : ∀ i, 0 ≤ i → i < 6 → ds g1 i = ds g i := fun i a c => hg _ (by omega)
  have a3 : ∀ i, 0 ≤ i → i < 6 → de g1 i = de g i := fun i a c => hg _ (by omega)
  have a4 : ∀ i, 0 ≤ i → i < 6 → dh g1 i = dh g i := fun i a c => hg _ (by omega)
  have c1 : ∀ i, 0 ≤ i → i < 6 → ul g1 i = ul g i := fun i a c => hg _ (by omega)
  have c2 : ∀ i, 0 ≤ i → i < 6 → us g1 i = us g i := fun i a c => hg _ (by omega)
  have c3 : ∀ i, 0 ≤ i → i < 6 → ue g1 i = ue g i := fun i a c => hg _ (by omega)
  have c4 : ∀ i, 0 ≤ i → i < 6 → uh g1 i = uh g i := fun i a c => hg _ (by omega)
  have k1 : ∀ i, 0 ≤ i → ha g1 i = ha g i := fun i a => hg _ (by omega)
  have k2 : ∀ i, 0 ≤ i → pr g1 i = pr g i := fun i a => hg _ (by omega)
  have k3 : ∀ i, 0 ≤ i → dy g1 i = dy g i := fun i a => hg _ (by omega)
  refine ⟨⟨⟨by rw [e0]; exact wn.1, by rw [e1]; exact wn.2.1, fun i a c => ?_, fun i a c => ?_⟩, w, ⟨by rw [e2]; exact wn.2.2, fun i a c => ?_⟩⟩, ⟨?_, ?_, ?_⟩, fun i a c => ?_, fun i a c => ?_, fun i a c => ⟨hd i a c, hu i a c⟩, fun i a c => ?_⟩
  · rw [e0] at c; rw [a1 i a (by omega), a2 i a (by omega), a3 i a (by omega), a4 i a (by omega)]; exact wB_d w0.1 a c
  · rw [e1] at c; rw [c1 i a (by omega), c2 i a (by omega), c3 i a (by omega), c4 i a (by omega)]; exact wB_u w0.1 a c
  · rw [e2] at c; rw [k1 i a, k2 i a, k3 i a]; exact wC_c w0.2.2 a c
  · rw [e0, frm_r s (by omega)]; exact isF_nd H
  · rw [e1, frm_r s (by omega)]; exact isF_nu H
  · rw [e2, frm_r s (by omega)]; exact isF_nc H
  · rw [e0] at c
    rw [a1 i a (by omega), a2 i a (by omega), a3 i a (by omega), a4 i a (by omega), frm_r s (by omega), frm_r s (by omega), frm_r s (by omega), frm_r s (by omega)]
    exact ⟨isF_dl H a c, isF_ds H a c, isF_de H a c, isF_dh H a c⟩
  · rw [e1] at c
    rw [c1 i a (by omega), c2 i a (by omega), c3 i a (by omega), c4 i a (by omega), frm_r s (by omega), frm_r s (by omega), frm_r s (by omega), frm_r s (by omega)]
    exact ⟨isF_ul H a c, isF_us H a c, isF_ue H a c, isF_uh H a c⟩
  · rw [e2] at c
    rw [k1 i a, k2 i a, k3 i a, frm_r s (by omega), frm_r s (by omega), frm_r s (by omega)]
    exact ⟨isF_ha H a c, isF_pr H a c, isF_dy H a c⟩
