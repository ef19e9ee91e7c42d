/-! HIRE: the run of bids -/
/-! HIRE: the bids one after another, as a function of how many there were -/
def fsN (P : Int → Prop) [DecidablePred P] : Nat → Int
  | 0 => -1
  | k + 1 => if fsN P k = -1 then (if P (k : Int) then (k : Int) else -1) else fsN P k
theorem fsN_f (P : Int → Prop) [DecidablePred P] (k : Nat) : fst1 P (k : Int) (fsN P k) := by
  induction k with
  | zero => exact Or.inl ⟨rfl, fun k a b => by omega⟩
  | succ k ih =>
    rw [show ((k + 1 : Nat) : Int) = (k : Int) + 1 by omega]
    show fst1 P _ (if _ then _ else _)
    rcases ih with ⟨e, q⟩ | ⟨b, p, q⟩
    · rw [if_pos e]
      by_cases c : P (k : Int)
      · rw [if_pos c]; exact Or.inr ⟨⟨by omega, by omega⟩, c, q⟩
      · rw [if_neg c]; exact Or.inl ⟨rfl, allS q c⟩
    · rw [if_neg (by omega)]
      exact Or.inr ⟨⟨b.1, by omega⟩, p, q⟩
abbrev nbP (r : Int → Int) (l : Int) (d : Int) : Prop := r d = 6 ∧ ¬ hasZ l d
def nbZ (g r : Int → Int) (l : Int) : Int := fsN (nbP r l) (nd g).toNat
theorem nbZ_f {g r : Int → Int} {l : Int} (hn : 0 ≤ nd g) : fst1 (nbP r l) (nd g) (nbZ g r l) := by
  have := fsN_f (nbP r l) (nd g).toNat
  rw [Int.toNat_of_nonneg hn] at this
  exact this
theorem nbZ_u {g r : Int → Int} {l v : Int} (hn : 0 ≤ nd g) (h : fst1 (nbP r l) (nd g) v) : v = nbZ g r l := fst1_u h (nbZ_f hn)
theorem bwZ_b {g w : Int → Int} {d : Int} (hn : 0 ≤ nu g) : bwZ g w d = -1 ∨ (0 ≤ bwZ g w d ∧ bwZ g w d < nu g) := by
  have := fmN_f (wth g w d) (nu g).toNat
  rw [Int.toNat_of_nonneg hn] at this
  exact fmax_b this
theorem bd_no {g r t w : Int → Int} {l d : Int} (X : bdX g w d) : bdR g r t w d = r ∧ bdT g t w d = t ∧ bdW g t w d = w ∧ bdL g w l d = orZ l (b1 d) := by
  unfold bdR bdT bdW bdL
  exact ⟨if_pos X, if_pos X, if_pos X, if_pos X⟩
theorem bd_fr {g r t w : Int → Int} {l d : Int} (X : ¬ bdX g w d) (T : t (bwZ g w d) = -1) : bdR g r t w d = setG r d (bwZ g w d) ∧ bdT g t w d = setG t (bwZ g w d) d ∧ bdW g t w d = w ∧ bdL g w l d = l := by
  unfold bdR bdT bdW bdL
  exact ⟨(if_neg X).trans (if_pos T), if_neg X, (if_neg X).trans (if_pos T), if_neg X⟩
theorem bd_tk {g r t w : Int → Int} {l d : Int} (X : ¬ bdX g w d) (T : ¬ t (bwZ g w d) = -1) : bdR g r t w d = setG (setG r (t (bwZ g w d)) 6) d (bwZ g w d) ∧ bdT g t w d = setG t (bwZ g w d) d ∧ bdW g t w d = setG w (bwZ g w d) (w (bwZ g w d) + 1) ∧ bdL g w l d = l := by
  unfold bdR bdT bdW bdL
  exact ⟨(if_neg X).trans (if_neg T), if_neg X, (if_neg X).trans (if_neg T), if_neg X⟩
theorem bdX_n {g w : Int → Int} {d : Int} (hn : 0 ≤ nu g) (X : ¬ bdX g w d) : (0 ≤ bwZ g w d ∧ bwZ g w d < nu g) ∧ w (bwZ g w d) ≤ fitZ g d (bwZ g w d) ∧ w (bwZ g w d) ≤ 30 := by
  have h1 := bwZ_b (g := g) (w := w) (d := d) hn
  have h2 := fitZ_b g d (bwZ g w d)
  have h3 : ¬ (bwZ g w d = -1 ∨ fitZ g d (bwZ g w d) < w (bwZ g w d)) := X
  omega
theorem wfH_bd {g r t w : Int → Int} {l d : Int} (W : wfH g r t w l) (n : (0 ≤ nd g ∧ nd g ≤ 6) ∧ (0 ≤ nu g ∧ nu g ≤ 6)) (hd : 0 ≤ d ∧ d < nd g) (hr : r d = 6) : wfH g (bdR g r t w d) (bdT g t w d) (bdW g t w d) (bdL g w l d) := by
  by_cases X : bdX g w d
  · obtain ⟨e1, e2, e3, e4⟩ := bd_no (r := r) (t := t) (l := l) X
    rw [e1, e2, e3, e4]; exact wfH_l W (by omega)
  · have hb := bdX_n n.2.1 X
    by_cases T : t (bwZ g w d) = -1
    · obtain ⟨e1, e2, e3, e4⟩ := bd_fr (r := r) (l := l) X T
      rw [e1, e2, e3, e4]; exact wfH_t W (by omega) hd hb.1 hr T
    · obtain ⟨e1, e2, e3, e4⟩ := bd_tk (r := r) (l := l) X T
      rw [e1, e2, e3, e4]; exact wfH_r W (by omega) hd hb.1 hr T hb.2.2
def sm6 (f : Int → Int) : Int := f 0 + f 1 + f 2 + f 3 + f 4 + f 5
theorem sm6_pt {f f' : Int → Int} {u : Int} (h0 : 0 ≤ u) (h1 : u < 6) (e : ∀ k, 0 ≤ k → k < 6 → k ≠ u → f' k = f k) : sm6 f' = sm6 f - f u + f' u := by
  have aa : ∀ k : Int, 0 ≤ k → k < 6 → k = u ∨ f' k = f k := fun k a c => by
    by_cases z : k = u
    · exact Or.inl z
    · exact Or.inr (e k a c z)
  have a0 := aa 0 (by omega) (by omega)
  have a1 := aa 1 (by omega) (by omega)
  have a2 := aa 2 (by omega) (by omega)
  have a3 := aa 3 (by omega) (by omega)
  have a4 := aa 4 (by omega) (by omega)
  have a5 := aa 5 (by omega) (by omega)
  clear aa e
  unfold sm6
  rcases (show u = 0 ∨ u = 1 ∨ u = 2 ∨ u = 3 ∨ u = 4 ∨ u = 5 by omega) with q | q | q | q | q | q <;> subst q <;> omega
theorem sm6_b {f : Int → Int} {lo hi : Int} (h : ∀ k, 0 ≤ k → k < 6 → lo ≤ f k ∧ f k ≤ hi) : 6 * lo ≤ sm6 f ∧ sm6 f ≤ 6 * hi := by
  have a0 := h 0 (by omega) (by omega)
  have a1 := h 1 (by omega) (by omega)
  have a2 := h 2 (by omega) (by omega)
  have a3 := h 3 (by omega) (by omega)
  have a4 := h 4 (by omega) (by omega)
  have a5 := h 5 (by omega) (by omega)
  unfold sm6; omega
theorem ones_6 (l : Int) : onesZ l = sm6 (fun k => bZ (hasZ l k)) := by
  have : onesZ l = 0 + bZ (hasZ l 0) + bZ (hasZ l 1) + bZ (hasZ l 2) + bZ (hasZ l 3) + bZ (hasZ l 4) + bZ (hasZ l 5) := rfl
  rw [this]; unfold sm6; dsimp only; omega
theorem has_b1 {d k : Int} (hd : 0 ≤ d) (hk : 0 ≤ k) : hasZ (b1 d) k ↔ k = d := by
  unfold hasZ
  rw [b1_n, Nat.testBit_two_pow, decide_eq_true_eq]
  omega
def hMu (t w : Int → Int) (l : Int) : Int := sm6 (fun k => bZ (hasZ l k)) + sm6 (fun u => bZ (t u ≠ -1)) + sm6 w
theorem hMu_b {g r t w : Int → Int} {l : Int} (W : wfH g r t w l) : 0 ≤ hMu t w l ∧ hMu t w l ≤ 198 := by
  have h1 := sm6_b (f := fun k => bZ (hasZ l k)) (lo := 0) (hi := 1) (fun k _ _ => ⟨bZ_lo _, bZ_hi _⟩)
  have h2 := sm6_b (f := fun u => bZ (t u ≠ -1)) (lo := 0) (hi := 1) (fun k _ _ => ⟨bZ_lo _, bZ_hi _⟩)
  have h3 := sm6_b (f := w) (lo := 0) (hi := 31) W.2.2.1
  unfold hMu; omega
theorem hMu_bd {g r t w : Int → Int} {l d : Int} (W : wfH g r t w l) (n : (0 ≤ nd g ∧ nd g ≤ 6) ∧ (0 ≤ nu g ∧ nu g ≤ 6)) (hd : 0 ≤ d ∧ d < nd g) (hl : ¬ hasZ l d) : hMu (bdT g t w d) (bdW g t w d) (bdL g w l d) = hMu t w l + 1 := by
  by_cases X : bdX g w d
  · obtain ⟨e1, e2, e3, e4⟩ := bd_no (r := r) (t := t) (l := l) X
    rw [e2, e3, e4]
    have h1 := sm6_pt (f := fun k => bZ (hasZ l k)) (f' := fun k => bZ (hasZ (orZ l (b1 d)) k)) (u := d) hd.1 (by omega) (fun k a c z => bZ_iff (by
      rw [or_has, has_b1 hd.1 a]
      exact ⟨fun q => q.resolve_right z, Or.inl⟩))
    have h2 : bZ (hasZ (orZ l (b1 d)) d) = 1 := bZ_1 (or_has.mpr (Or.inr ((has_b1 hd.1 hd.1).mpr rfl)))
    have h3 : bZ (hasZ l d) = 0 := bZ_0 hl
    simp only [h2, h3] at h1
    unfold hMu
    rw [h1]; omega
  · have hb := bdX_n n.2.1 X
    have h1 := sm6_pt (f := fun u => bZ (t u ≠ -1)) (f' := fun u => bZ (setG t (bwZ g w d) d u ≠ -1)) (u := bwZ g w d) hb.1.1 (by omega) (fun k a c z => by
      unfold setG; rw [if_neg z])
    have h2 : bZ (setG t (bwZ g w d) d (bwZ g w d) ≠ -1) = 1 := bZ_1 (by unfold setG; rw [if_pos rfl]; omega)
    by_cases T : t (bwZ g w d) = -1
    · obtain ⟨e1, e2, e3, e4⟩ := bd_fr (r := r) (l := l) X T
      rw [e2, e3, e4]
      have h3 : bZ (t (bwZ g w d) ≠ -1) = 0 := bZ_0 (fun q => q T)
      simp only [h2, h3] at h1
      unfold hMu
      rw [h1]; omega
    · obtain ⟨e1, e2, e3, e4⟩ := bd_tk (r := r) (l := l) X T
      rw [e2, e3, e4]
      have h3 : bZ (t (bwZ g w d) ≠ -1) = 1 := bZ_1 T
      have h4 := sm6_pt (f := w) (f' := setG w (bwZ g w d) (w (bwZ g w d) + 1)) (u := bwZ g w d) hb.1.1 (by omega) (fun k a c z => if_neg z)
      have h5 : setG w (bwZ g w d) (w (bwZ g w d) + 1) (bwZ g w d) = w (bwZ g w d) + 1 := if_pos rfl
      rw [h5] at h4
      simp only [h2, h3] at h1
      unfold hMu
      rw [h1, h4]; omega
abbrev hTy : Type := (Int → Int) × (Int → Int) × (Int → Int) × Int
def hStep (g : Int → Int) (S : hTy) : hTy := if nbZ g S.1 S.2.2.2 = -1 then S else (bdR g S.1 S.2.1 S.2.2.1 (nbZ g S.1 S.2.2.2), bdT g S.2.1 S.2.2.1 (nbZ g S.1 S.2.2.2), bdW g S.2.1 S.2.2.1 (nbZ g S.1 S.2.2.2), bdL g S.2.2.1 S.2.2.2 (nbZ g S.1 S.2.2.2))
def hSt (g : Int → Int) : Nat → hTy
  | 0 => (fun _ => 6, fun _ => -1, fun _ => 0, 0)
  | n + 1 => hStep g (hSt g n)
def hR (g : Int → Int) (k : Int) : Int → Int := (hSt g k.toNat).1
def hT (g : Int → Int) (k : Int) : Int → Int := (hSt g k.toNat).2.1
def hW (g : Int → Int) (k : Int) : Int → Int := (hSt g k.toNat).2.2.1
def hL (g : Int → Int) (k : Int) : Int := (hSt g k.toNat).2.2.2
def hD (g : Int → Int) (k : Int) : Int := nbZ g (hR g k) (hL g k)
theorem hS_s {g : Int → Int} {k : Int} (h0 : 0 ≤ k) (hd : hD g k ≠ -1) : hR g (k + 1) = bdR g (hR g k) (hT g k) (hW g k) (hD g k) ∧ hT g (k + 1) = bdT g (hT g k) (hW g k) (hD g k) ∧ hW g (k + 1) = bdW g (hT g k) (hW g k) (hD g k) ∧ hL g (k + 1) = bdL g (hW g k) (hL g k) (hD g k) := by
  have e : hSt g (k + 1).toNat = hStep g (hSt g k.toNat) := by rw [show (k + 1).toNat = k.toNat + 1 by omega]; rfl
  have e2 : hStep g (hSt g k.toNat) = (bdR g (hR g k) (hT g k) (hW g k) (hD g k), bdT g (hT g k) (hW g k) (hD g k), bdW g (hT g k) (hW g k) (hD g k), bdL g (hW g k) (hL g k) (hD g k)) := if_neg hd
  unfold hR hT hW hL
  rw [e, e2]
  exact ⟨rfl, rfl, rfl, rfl⟩
theorem hS_stop {g : Int → Int} {k : Int} (hd : hD g k = -1) (n : Nat) : hSt g (k.toNat + n) = hSt g k.toNat := by
  induction n with
  | zero => rfl
  | succ n ih =>
    show hStep g (hSt g (k.toNat + n)) = _
    rw [ih]
    exact if_pos hd
theorem hS_u {g : Int → Int} {k k' : Int} (hd : hD g k = -1) (hd' : hD g k' = -1) : hR g k = hR g k' ∧ hW g k = hW g k' := by
  have e : hSt g k.toNat = hSt g k'.toNat := by
    rcases Nat.le_total k.toNat k'.toNat with q | q
    · have := hS_stop hd (k'.toNat - k.toNat)
      rw [show k.toNat + (k'.toNat - k.toNat) = k'.toNat by omega] at this
      exact this.symm
    · have := hS_stop hd' (k.toNat - k'.toNat)
      rw [show k'.toNat + (k.toNat - k'.toNat) = k.toNat by omega] at this
      exact this
  unfold hR hW
  rw [e]
  exact ⟨rfl, rfl⟩
theorem hMu_0 (g : Int → Int) : hMu (hT g 0) (hW g 0) (hL g 0) = 0 := by
  have h : ∀ k, bZ (hasZ 0 k) = 0 := fun k => bZ_0 (by unfold hasZ; rw [show (0 : Int).toNat = 0 from rfl, Nat.zero_testBit]; exact Bool.false_ne_true)
  have h2 : bZ ((-1 : Int) ≠ -1) = 0 := bZ_0 (fun q => q rfl)
  show sm6 (fun k => bZ (hasZ 0 k)) + sm6 (fun u => bZ ((-1 : Int) ≠ -1)) + sm6 (fun _ => 0) = 0
  unfold sm6
  dsimp only
  rw [h, h, h, h, h, h, h2]; rfl
theorem wfH_0 (g : Int → Int) : wfH g (hR g 0) (hT g 0) (hW g 0) (hL g 0) := ⟨fun d a c => Or.inl rfl, fun d a c => Or.inl rfl, fun u a c => ⟨Int.le_refl 0, by show (0 : Int) ≤ 31; omega⟩, ⟨Int.le_refl 0, by show (0 : Int) < 64; omega⟩⟩
theorem wfH_i {g r t w : Int → Int} {l : Int} (W : wfH g r t w l) {o u : Int} (h0 : 0 ≤ o) (h1 : o < 6) (u0 : 0 ≤ u) (u1 : u < 6) : r o = u ↔ t u = o := by
  constructor
  · intro q
    rcases W.1 o h0 h1 with z | z
    · omega
    · rw [q] at z; exact z.2.2.2
  · intro q
    rcases W.2.1 u u0 u1 with z | z
    · omega
    · rw [q] at z; exact z.2.2.2
theorem wnt_u {g w : Int → Int} {d v : Int} (hn : 0 ≤ nu g) (h : ∃ b, fmax (fun _ => True) (wth g w d) (nu g) b ∧ ((b = -1 ∧ v = -1) ∨ (b ≠ -1 ∧ fitZ g d b < w b ∧ v = -1) ∨ (b ≠ -1 ∧ w b ≤ fitZ g d b ∧ v = b))) : (bdX g w d ∧ v = -1) ∨ (¬ bdX g w d ∧ v = bwZ g w d ∧ 0 ≤ v ∧ v < nu g ∧ w v ≤ 30) := by
  obtain ⟨b, f, q⟩ := h
  have e := bwZ_u hn f
  subst e
  have X : bdX g w d ↔ (bwZ g w d = -1 ∨ fitZ g d (bwZ g w d) < w (bwZ g w d)) := Iff.rfl
  rcases q with ⟨q1, q2⟩ | ⟨q1, q2, q3⟩ | ⟨q1, q2, q3⟩
  · exact Or.inl ⟨X.mpr (Or.inl q1), q2⟩
  · exact Or.inl ⟨X.mpr (Or.inr q2), q3⟩
  · have nX : ¬ bdX g w d := fun z => by have := X.mp z; omega
    have := bdX_n hn nX
    subst q3
    exact Or.inr ⟨nX, rfl, this.1.1, this.1.2, this.2.2⟩
theorem hrs_R {g r t w : Int → Int} {d u : Int} (X : ¬ bdX g w d) (eu : u = bwZ g w d) (tu : t u = -1 ∨ (0 ≤ t u ∧ t u < nd g)) {j : Int} (h0 : 0 ≤ j) : bdR g r t w d j = if j = d then u else if t u = j ∧ j < nd g then 6 else r j := by
  subst eu
  by_cases T : t (bwZ g w d) = -1
  · rw [(bd_fr (r := r) (l := 0) X T).1]
    unfold setG
    by_cases q : j = d
    · rw [if_pos q, if_pos q]
    · rw [if_neg q, if_neg q, if_neg (by omega)]
  · rw [(bd_tk (r := r) (l := 0) X T).1]
    unfold setG
    by_cases q : j = d
    · rw [if_pos q, if_pos q]
    · rw [if_neg q, if_neg q]
      by_cases q2 : j = t (bwZ g w d)
      · rw [if_pos q2, if_pos (by omega)]
      · rw [if_neg q2, if_neg (by omega)]
theorem hrs_W {g t w : Int → Int} {d u : Int} (X : ¬ bdX g w d) (eu : u = bwZ g w d) (tu : t u = -1 ∨ (0 ≤ t u ∧ t u < nd g)) {j : Int} : bdW g t w d j = if j = u ∧ 0 ≤ t u ∧ t u < nd g then w j + 1 else w j := by
  subst eu
  by_cases T : t (bwZ g w d) = -1
  · rw [(bd_fr (r := w) (l := 0) X T).2.2.1, if_neg (by omega)]
  · rw [(bd_tk (r := w) (l := 0) X T).2.2.1]
    unfold setG
    by_cases q : j = bwZ g w d
    · rw [if_pos q, if_pos ⟨q, by omega, by omega⟩, q]
    · rw [if_neg q, if_neg (fun z => q z.1)]
def hiE (h : mH) (y : Nat) (g : Int → Int) : Prop := ∃ k : Int, hD g k = -1 ∧ hiC h y g (hR g k) (hT g k) (hW g k) (hL g k)
def hiP (g : Int → Int) (wage : Prop) [Decidable wage] (b v : Int) : Prop := ((if wage then 0 ≤ b ∧ b < nu g else 0 ≤ b ∧ b < nd g) ∧ ∃ k : Int, hD g k = -1 ∧ v = if wage then hW g k b else gotZ (hR g k b)) ∨ (¬ (if wage then 0 ≤ b ∧ b < nu g else 0 ≤ b ∧ b < nd g) ∧ v = -2)
theorem hiP_w {g : Int → Int} {w : Prop} [Decidable w] {b v k : Int} (c : w) (hb : 0 ≤ b ∧ b < nu g) (hd : hD g k = -1) (e : v = hW g k b) : hiP g w b v := Or.inl ⟨by rw [if_pos c]; exact hb, k, hd, by rw [if_pos c]; exact e⟩
theorem hiP_g {g : Int → Int} {w : Prop} [Decidable w] {b v k : Int} (c : ¬ w) (hb : 0 ≤ b ∧ b < nd g) (hd : hD g k = -1) (e : v = gotZ (hR g k b)) : hiP g w b v := Or.inl ⟨by rw [if_neg c]; exact hb, k, hd, by rw [if_neg c]; exact e⟩
theorem hiP_ow {g : Int → Int} {w : Prop} [Decidable w] {b v : Int} (c : w) (hb : ¬ (0 ≤ b ∧ b < nu g)) (e : v = -2) : hiP g w b v := Or.inr ⟨by rw [if_pos c]; exact hb, e⟩
theorem hiP_og {g : Int → Int} {w : Prop} [Decidable w] {b v : Int} (c : ¬ w) (hb : ¬ (0 ≤ b ∧ b < nd g)) (e : v = -2) : hiP g w b v := Or.inr ⟨by rw [if_neg c]; exact hb, e⟩
theorem fst1_b {P : Int → Prop} {N v : Int} (h : fst1 P N v) : v = -1 ∨ (0 ≤ v ∧ v < N) := by rcases h with q | q; exact Or.inl q.1; exact Or.inr q.1
theorem hiP_u {wage : Prop} [Decidable wage] {b : Int} (g : Int → Int) (r r' : Int) (x : hiP g wage b r) (y : hiP g wage b r') : r = r' := by
  rcases x with ⟨x1, k, x2, x3⟩ | ⟨x1, x2⟩ <;> rcases y with ⟨y1, k', y2, y3⟩ | ⟨y1, y2⟩
  · obtain ⟨e1, e2⟩ := hS_u x2 y2
    rw [x3, y3, e1, e2]
  · exact absurd x1 y1
  · exact absurd y1 x1
  · rw [x2, y2]
