/-! WORKS: rows as numbers -/
/-! NUMBERS OF BASE 7, six digits, the first the greatest -/
def scZ (n : Int) : Int := if n ≤ 0 then 117649 else if n = 1 then 16807 else if n = 2 then 2401 else if n = 3 then 343 else if n = 4 then 49 else if n = 5 then 7 else 1
theorem sc_0 : scZ 0 = 117649 := rfl
theorem sc_1 : scZ 1 = 16807 := rfl
theorem sc_2 : scZ 2 = 2401 := rfl
theorem sc_3 : scZ 3 = 343 := rfl
theorem sc_4 : scZ 4 = 49 := rfl
theorem sc_5 : scZ 5 = 7 := rfl
theorem sc_6 : scZ 6 = 1 := rfl
theorem sc_s {n : Int} (h0 : 0 ≤ n) (h1 : n < 6) : scZ n = 7 * scZ (n + 1) ∧ 1 ≤ scZ (n + 1) := by
  rcases (show n = 0 ∨ n = 1 ∨ n = 2 ∨ n = 3 ∨ n = 4 ∨ n = 5 by omega) with q | q | q | q | q | q <;> subst q <;> decide
theorem sc_b {n : Int} (h0 : 0 ≤ n) (h1 : n ≤ 6) : 1 ≤ scZ n ∧ scZ n ≤ 117649 := by
  rcases (show n = 0 ∨ n = 1 ∨ n = 2 ∨ n = 3 ∨ n = 4 ∨ n = 5 ∨ n = 6 by omega) with q | q | q | q | q | q | q <;> subst q <;> decide
def dgZ (k c : Int) : Int := k / scZ (c + 1) % 7
theorem dg_b (k c : Int) : 0 ≤ dgZ k c ∧ dgZ k c ≤ 6 := by unfold dgZ; omega
def cdZ (w : Int → Int) (n : Int) : Int := sumZ (fun c => w c * scZ (c + 1)) n.toNat
theorem cd_s {w : Int → Int} {n : Int} (h : 0 ≤ n) : cdZ w (n + 1) = cdZ w n + w n * scZ (n + 1) := sumZ_s h
theorem cd_0 (w : Int → Int) : cdZ w 0 = 0 := rfl
theorem cd_e {w w' : Int → Int} {n : Int} (h : ∀ c, 0 ≤ c → c < n → w c = w' c) : cdZ w n = cdZ w' n := sumZ_e (fun c a e => by rw [h c a (by omega)])
theorem cd_set {w : Int → Int} {n d : Int} (h : 0 ≤ n) : cdZ (setG w n d) (n + 1) = cdZ w n + d * scZ (n + 1) := by
  rw [cd_s h, cd_e (w := setG w n d) (w' := w) (n := n) (fun c a e => if_neg (by omega))]
  congr 1
  unfold setG
  rw [if_pos rfl]
theorem cd_u (w : Int → Int) : cdZ w 1 = w 0 * 16807 ∧ cdZ w 2 = w 0 * 16807 + w 1 * 2401 ∧ cdZ w 3 = w 0 * 16807 + w 1 * 2401 + w 2 * 343 ∧ cdZ w 4 = w 0 * 16807 + w 1 * 2401 + w 2 * 343 + w 3 * 49 ∧ cdZ w 5 = w 0 * 16807 + w 1 * 2401 + w 2 * 343 + w 3 * 49 + w 4 * 7 ∧ cdZ w 6 = w 0 * 16807 + w 1 * 2401 + w 2 * 343 + w 3 * 49 + w 4 * 7 + w 5 := by
  have e1 : cdZ w 1 = w 0 * 16807 := by rw [show (1 : Int) = 0 + 1 by omega, cd_s (by omega), cd_0]; show 0 + w 0 * scZ 1 = _; rw [sc_1]; omega
  have e2 : cdZ w 2 = cdZ w 1 + w 1 * 2401 := by rw [show (2 : Int) = 1 + 1 by omega, cd_s (by omega)]; rfl
  have e3 : cdZ w 3 = cdZ w 2 + w 2 * 343 := by rw [show (3 : Int) = 2 + 1 by omega, cd_s (by omega)]; rfl
  have e4 : cdZ w 4 = cdZ w 3 + w 3 * 49 := by rw [show (4 : Int) = 3 + 1 by omega, cd_s (by omega)]; rfl
  have e5 : cdZ w 5 = cdZ w 4 + w 4 * 7 := by rw [show (5 : Int) = 4 + 1 by omega, cd_s (by omega)]; rfl
  have e6 : cdZ w 6 = cdZ w 5 + w 5 * 1 := by rw [show (6 : Int) = 5 + 1 by omega, cd_s (by omega)]; rfl
  omega
theorem dg_in {w : Int → Int} {n k c : Int} (h0 : 0 ≤ n) (h1 : n ≤ 6) (hw : ∀ c, 0 ≤ c → c < n → 0 ≤ w c ∧ w c ≤ 6) (k0 : cdZ w n ≤ k) (k1 : k < cdZ w n + scZ n) (c0 : 0 ≤ c) (c1 : c < n) : dgZ k c = w c := by
  obtain ⟨u1, u2, u3, u4, u5, u6⟩ := cd_u w
  have q : ∀ j, 0 ≤ j → j < 6 → (j < n → 0 ≤ w j ∧ w j ≤ 6) := fun j a _ e => hw j a e
  have q0 := q 0 (by omega) (by omega)
  have q1 := q 1 (by omega) (by omega)
  have q2 := q 2 (by omega) (by omega)
  have q3 := q 3 (by omega) (by omega)
  have q4 := q 4 (by omega) (by omega)
  have q5 := q 5 (by omega) (by omega)
  clear q hw
  unfold dgZ
  rcases (show c = 0 ∨ c = 1 ∨ c = 2 ∨ c = 3 ∨ c = 4 ∨ c = 5 by omega) with z | z | z | z | z | z <;> subst z
  · show k / scZ 1 % 7 = w 0
    rw [sc_1]
    rcases (show n = 1 ∨ n = 2 ∨ n = 3 ∨ n = 4 ∨ n = 5 ∨ n = 6 by omega) with y | y | y | y | y | y <;> subst y
    · rw [sc_1] at k1; omega
    · rw [sc_2] at k1; omega
    · rw [sc_3] at k1; omega
    · rw [sc_4] at k1; omega
    · rw [sc_5] at k1; omega
    · rw [sc_6] at k1; omega
  · show k / scZ 2 % 7 = w 1
    rw [sc_2]
    rcases (show n = 2 ∨ n = 3 ∨ n = 4 ∨ n = 5 ∨ n = 6 by omega) with y | y | y | y | y <;> subst y
    · rw [sc_2] at k1; omega
    · rw [sc_3] at k1; omega
    · rw [sc_4] at k1; omega
    · rw [sc_5] at k1; omega
    · rw [sc_6] at k1; omega
  · show k / scZ 3 % 7 = w 2
    rw [sc_3]
    rcases (show n = 3 ∨ n = 4 ∨ n = 5 ∨ n = 6 by omega) with y | y | y | y <;> subst y
    · rw [sc_3] at k1; omega
    · rw [sc_4] at k1; omega
    · rw [sc_5] at k1; omega
    · rw [sc_6] at k1; omega
  · show k / scZ 4 % 7 = w 3
    rw [sc_4]
    rcases (show n = 4 ∨ n = 5 ∨ n = 6 by omega) with y | y | y <;> subst y
    · rw [sc_4] at k1; omega
    · rw [sc_5] at k1; omega
    · rw [sc_6] at k1; omega
  · show k / scZ 5 % 7 = w 4
    rw [sc_5]
    rcases (show n = 5 ∨ n = 6 by omega) with y | y <;> subst y
    · rw [sc_5] at k1; omega
    · rw [sc_6] at k1; omega
  · show k / scZ 6 % 7 = w 5
    rw [sc_6]
    have y : n = 6 := by omega
    subst y
    rw [sc_6] at k1; omega
/-- what stands below a place with all that is above it of the same rest -/
theorem cd_m {w : Int → Int} {n : Int} (h0 : 0 ≤ n) (h1 : n ≤ 6) : cdZ w n % scZ n = 0 := by
  obtain ⟨u1, u2, u3, u4, u5, u6⟩ := cd_u w
  rcases (show n = 0 ∨ n = 1 ∨ n = 2 ∨ n = 3 ∨ n = 4 ∨ n = 5 ∨ n = 6 by omega) with y | y | y | y | y | y | y <;> subst y
  · rfl
  · rw [sc_1]; omega
  · rw [sc_2]; omega
  · rw [sc_3]; omega
  · rw [sc_4]; omega
  · rw [sc_5]; omega
  · rw [sc_6]; omega
theorem cd_one {w : Int → Int} {n k : Int} (h0 : 0 ≤ n) (h1 : n ≤ 6) (k0 : cdZ w n ≤ k) (k1 : k < cdZ w n + scZ n) (m : k % scZ n = 0) : k = cdZ w n := by
  have e := cd_m (w := w) h0 h1
  have b := sc_b h0 h1
  have a1 := Int.emod_add_mul_ediv k (scZ n)
  have a2 := Int.emod_add_mul_ediv (cdZ w n) (scZ n)
  rw [m] at a1
  rw [e] at a2
  have a3 : scZ n * (k / scZ n) < scZ n * (cdZ w n / scZ n + 1) := by rw [Int.mul_add, Int.mul_one]; omega
  have a4 := Int.lt_of_mul_lt_mul_left a3 (by omega)
  have a5 : scZ n * (cdZ w n / scZ n) ≤ scZ n * (k / scZ n) := by omega
  have a6 : cdZ w n / scZ n ≤ k / scZ n := Int.le_of_mul_le_mul_left a5 (by omega)
  rw [show k / scZ n = cdZ w n / scZ n by omega] at a1
  omega
theorem cd_b {w : Int → Int} {n : Int} (h0 : 0 ≤ n) (h1 : n ≤ 6) (hw : ∀ c, 0 ≤ c → c < n → 0 ≤ w c ∧ w c ≤ 6) : 0 ≤ cdZ w n ∧ cdZ w n + scZ n ≤ 117649 := by
  obtain ⟨u1, u2, u3, u4, u5, u6⟩ := cd_u w
  have q : ∀ j, 0 ≤ j → j < 6 → (j < n → 0 ≤ w j ∧ w j ≤ 6) := fun j a _ e => hw j a e
  have q0 := q 0 (by omega) (by omega)
  have q1 := q 1 (by omega) (by omega)
  have q2 := q 2 (by omega) (by omega)
  have q3 := q 3 (by omega) (by omega)
  have q4 := q 4 (by omega) (by omega)
  have q5 := q 5 (by omega) (by omega)
  clear q hw
  rcases (show n = 0 ∨ n = 1 ∨ n = 2 ∨ n = 3 ∨ n = 4 ∨ n = 5 ∨ n = 6 by omega) with y | y | y | y | y | y | y <;> subst y
  · rw [cd_0, sc_0]; omega
  · rw [sc_1]; omega
  · rw [sc_2]; omega
  · rw [sc_3]; omega
  · rw [sc_4]; omega
  · rw [sc_5]; omega
  · rw [sc_6]; omega
theorem fmax_dom {P : Int → Prop} {s : Int → Int} {N N' v : Int} (h : fmax P s N v) (hN : N ≤ N') (hv : v ≠ -1) (q : ∀ k, N ≤ k → k < N' → P k → s k ≤ s v) : fmax P s N' v := by
  rcases h with ⟨a, b⟩ | ⟨a, b, c⟩
  · exact absurd a hv
  · refine Or.inr ⟨by omega, b, fun k x y p => ?_⟩
    by_cases z : k < N
    · exact c k x z p
    · have := q k (by omega) y p
      omega
/-! WORKS: who may work at what -/
abbrev all6 (P : Int → Prop) : Prop := P 0 ∧ P 1 ∧ P 2 ∧ P 3 ∧ P 4 ∧ P 5
theorem all6_i {P : Int → Prop} : all6 P ↔ ∀ k, 0 ≤ k → k < 6 → P k := by
  constructor
  · rintro ⟨h0, h1, h2, h3, h4, h5⟩ k a c
    rcases (show k = 0 ∨ k = 1 ∨ k = 2 ∨ k = 3 ∨ k = 4 ∨ k = 5 by omega) with q | q | q | q | q | q <;> subst q <;> assumption
  · intro h
    exact ⟨h 0 (by omega) (by omega), h 1 (by omega) (by omega), h 2 (by omega) (by omega), h 3 (by omega) (by omega), h 4 (by omega) (by omega), h 5 (by omega) (by omega)⟩
theorem sm6_e {f f' : Int → Int} (h : ∀ k, 0 ≤ k → k < 6 → f k = f' k) : sm6 f = sm6 f' := by
  unfold sm6
  rw [h 0 (by omega) (by omega), h 1 (by omega) (by omega), h 2 (by omega) (by omega), h 3 (by omega) (by omega), h 4 (by omega) (by omega), h 5 (by omega) (by omega)]
def ahG (g : Int → Int) (M : Int → Prop) [DecidablePred M] (c : Int) : Int := sm6 (fun o => bZ (M o ∧ dy g o < dy g c))
theorem ahG_b (g : Int → Int) (M : Int → Prop) [DecidablePred M] (c : Int) : 0 ≤ ahG g M c ∧ ahG g M c ≤ 6 := by
  have := sm6_b (f := fun o => bZ (M o ∧ dy g o < dy g c)) (lo := 0) (hi := 1) (fun k _ _ => ⟨bZ_lo _, bZ_hi _⟩)
  unfold ahG; omega
def okG (g : Int → Int) (d : Int) (M : Int → Prop) [DecidablePred M] : Prop := ∀ c, 0 ≤ c → c < 6 → M c → (∀ o, 0 ≤ o → o < 6 → M o → o ≠ c → dy g o ≠ dy g c) ∧ ha g c ≤ powW g d (upv g d) (ahG g M c)
theorem ahG_e {g : Int → Int} {M M' : Int → Prop} [DecidablePred M] [DecidablePred M'] (e : ∀ k, 0 ≤ k → k < 6 → (M k ↔ M' k)) (c : Int) : ahG g M c = ahG g M' c := sm6_e (fun k a b => bZ_iff (by rw [e k a b]))
theorem okG_e {g : Int → Int} {d : Int} {M M' : Int → Prop} [DecidablePred M] [DecidablePred M'] (e : ∀ k, 0 ≤ k → k < 6 → (M k ↔ M' k)) (h : okG g d M) : okG g d M' := fun c a b p => by
  obtain ⟨h1, h2⟩ := h c a b ((e c a b).mpr p)
  exact ⟨fun o u v z n => h1 o u v ((e o u v).mpr z) n, by rw [← ahG_e e]; exact h2⟩
theorem powW_m {g : Int → Int} {d u x y : Int} (h : x ≤ y) : powW g d u y ≤ powW g d u x := by unfold powW; omega
/-- he who may work at more may work at one of it -/
theorem okG_1 {g : Int → Int} {d c : Int} {M : Int → Prop} [DecidablePred M] (h : okG g d M) (c0 : 0 ≤ c) (c1 : c < 6) (p : M c) : ha g c ≤ powW g d (upv g d) 0 := by
  have := (h c c0 c1 p).2
  have := powW_m (g := g) (d := d) (u := upv g d) (ahG_b g M c).1
  omega
def okD (g w : Int → Int) (c : Int) : Prop := w c = 6 ∨ ((0 ≤ w c ∧ w c < nd g) ∧ upv g (w c) ≠ -1 ∧ okG g (w c) (fun o => o < c + 1 ∧ w o = w c))
theorem okD_e {g w w' : Int → Int} {c : Int} (h0 : 0 ≤ c) (h : ∀ o, 0 ≤ o → o ≤ c → w o = w' o) (k : okD g w c) : okD g w' c := by
  have e := h c h0 (by omega)
  unfold okD at k ⊢
  rw [← e]
  rcases k with k | ⟨k1, k2, k3⟩
  · exact Or.inl k
  · refine Or.inr ⟨k1, k2, okG_e (fun o a b => ?_) k3⟩
    constructor
    · intro z; exact ⟨z.1, by rw [← h o a (by omega)]; exact z.2⟩
    · intro z; exact ⟨z.1, by rw [h o a (by omega)]; exact z.2⟩
def vaW (g : Int → Int) (k : Int) : Prop := k % scZ (nc g) = 0 ∧ ∀ c, 0 ≤ c → c < nc g → okD g (dgZ k) c
def suV (g w : Int → Int) (n : Int) : Int := sumZ (fun c => if w c < 6 then pr g c else 0) n.toNat
def suW (g : Int → Int) (k : Int) : Int := suV g (dgZ k) (nc g)
theorem suV_s {g w : Int → Int} {n : Int} (h : 0 ≤ n) : suV g w (n + 1) = suV g w n + if w n < 6 then pr g n else 0 := sumZ_s h
theorem suV_e {g w w' : Int → Int} {n : Int} (h : ∀ c, 0 ≤ c → c < n → w c = w' c) : suV g w n = suV g w' n := sumZ_e (fun c a e => by rw [h c a (by omega)])
theorem suV_b {g w : Int → Int} (wc : wfC g) {n : Int} (h0 : 0 ≤ n) (h1 : n ≤ nc g) : 0 ≤ suV g w n ∧ suV g w n ≤ 20 * n := by
  have := sumZ_b (f := fun c => if w c < 6 then pr g c else 0) (lo := 0) (hi := 20) (n := n.toNat) (fun c a e => by
    have := wC_c wc a (show c < nc g by omega)
    split <;> omega)
  unfold suV; omega
/-- a code below a prefix has the prefix's digits -/
theorem va_pre {g w : Int → Int} {n k : Int} (h0 : 0 ≤ n) (h1 : n ≤ nc g) (h6 : nc g ≤ 6) (hw : ∀ c, 0 ≤ c → c < n → 0 ≤ w c ∧ w c ≤ 6) (k0 : cdZ w n ≤ k) (k1 : k < cdZ w n + scZ n) (v : vaW g k) {c : Int} (c0 : 0 ≤ c) (c1 : c < n) : okD g w c := okD_e c0 (fun o a e => dg_in h0 (by omega) hw k0 k1 a (by omega)) (v.2 c c0 (by omega))
theorem va_leaf {g w : Int → Int} (h0 : 0 ≤ nc g) (h6 : nc g ≤ 6) (hw : ∀ c, 0 ≤ c → c < nc g → 0 ≤ w c ∧ w c ≤ 6) (v : ∀ c, 0 ≤ c → c < nc g → okD g w c) : vaW g (cdZ w (nc g)) ∧ suW g (cdZ w (nc g)) = suV g w (nc g) := by
  have sb := sc_b h0 h6
  have e : ∀ c, 0 ≤ c → c < nc g → dgZ (cdZ w (nc g)) c = w c := fun c a b => dg_in h0 h6 hw (by omega) (by omega) a b
  exact ⟨⟨cd_m h0 h6, fun c a b => okD_e a (fun o u z => (e o u (by omega)).symm) (v c a b)⟩, suV_e e⟩
