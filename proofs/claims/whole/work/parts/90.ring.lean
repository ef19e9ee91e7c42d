/-! TRADE: rings, in any order -/
theorem fb_holes : ∀ (m n : Nat) (f : Nat → Nat), (∀ i, i < n → f i < m) → (∀ i j, i < j → j < n → f i ≠ f j) → n ≤ m := by
  intro m
  induction m with
  | zero =>
    intro n f h1 _
    rcases Nat.eq_zero_or_pos n with h | h
    · omega
    · exact absurd (h1 0 h) (Nat.not_lt_zero _)
  | succ m ih =>
    intro n f h1 h2
    by_cases hx : ∃ i, i < n ∧ f i = m
    · obtain ⟨a, ha, hfa⟩ := hx
      have hg := ih (n - 1) (fun i => if i < a then f i else f (i + 1)) (by
        intro i hi
        by_cases q : i < a
        · simp only [if_pos q]
          have b1 := h1 i (by omega)
          have b2 := h2 i a q ha
          omega
        · simp only [if_neg q]
          have b1 := h1 (i + 1) (by omega)
          have b2 := h2 a (i + 1) (by omega) (by omega)
          omega) (by
        intro i j hij hj
        by_cases q : i < a
        · by_cases r : j < a
          · simp only [if_pos q, if_pos r]
            exact h2 i j hij (by omega)
          · simp only [if_pos q, if_neg r]
            exact h2 i (j + 1) (by omega) (by omega)
        · have r : ¬ j < a := by omega
          simp only [if_neg q, if_neg r]
          exact h2 (i + 1) (j + 1) (by omega) (by omega))
      omega
    · have hg := ih n f (fun i hi => by
        have b1 := h1 i hi
        have b2 : f i ≠ m := fun e => hx ⟨i, hi, e⟩
        omega) h2
      omega
theorem fb_twice {m n : Nat} {f : Nat → Nat} (h : ∀ i, i < n → f i < m) (hm : m < n) : ∃ i j, i < j ∧ j < n ∧ f i = f j := by
  refine Classical.byContradiction fun hx => ?_
  have := fb_holes m n f h (fun i j hij hj e => hx ⟨i, j, hij, hj, e⟩)
  omega
theorem fb_onto {n : Nat} {f : Nat → Nat} (h : ∀ i, i < n → f i < n) (h2 : ∀ i j, i < j → j < n → f i ≠ f j) {y : Nat} (hy : y < n) : ∃ i, i < n ∧ f i = y := by
  refine Classical.byContradiction fun hx => ?_
  have hne : ∀ i, i < n → f i ≠ y := fun i hi e => hx ⟨i, hi, e⟩
  have := fb_holes (n - 1) n (fun i => if f i < y then f i else f i - 1) (by
    intro i hi
    have b1 := h i hi
    have b2 := hne i hi
    by_cases q : f i < y
    · simp only [if_pos q]; omega
    · simp only [if_neg q]; omega) (by
    intro i j hij hj
    have b1 := hne i (by omega)
    have b2 := hne j hj
    have b3 := h2 i j hij hj
    by_cases q : f i < y
    · by_cases r : f j < y
      · simp only [if_pos q, if_pos r]; exact b3
      · simp only [if_pos q, if_neg r]; omega
    · by_cases r : f j < y
      · simp only [if_neg q, if_pos r]; omega
      · simp only [if_neg q, if_neg r]; omega)
  omega
/-! SETS of six as numbers below 64 -/
theorem sub_d : ∀ x, x < 64 → ∀ y, y < 64 → ∀ k, k < 6 → (x &&& (63 - y)).testBit k = (x.testBit k && !y.testBit k) := by decide +kernel
def subS (s c : Int) : Int := andZ s (63 - c)
theorem subS_b (s c : Int) : 0 ≤ subS s c ∧ (0 ≤ s → subS s c ≤ s) := by
  have := andZ_b s (63 - c)
  unfold subS; omega
theorem subS_h {s c k : Int} (hs : 0 ≤ s ∧ s < 64) (hc : 0 ≤ c ∧ c < 64) (h0 : 0 ≤ k) (h1 : k < 6) : hasZ (subS s c) k ↔ hasZ s k ∧ ¬ hasZ c k := by
  have h := sub_d s.toNat (by omega) c.toNat (by omega) k.toNat (by omega)
  unfold subS andZ hasZ
  rw [Int.toNat_natCast, show (63 - c).toNat = 63 - c.toNat by omega, h, Bool.and_eq_true, Bool.not_eq_true', Bool.not_eq_true]
theorem not_d : ∀ y : Nat, y < 64 → nI y ^^^ (-1 : Int32) = zI (-1 - (y : Int)) := by decide +kernel
theorem andn_d : ∀ x : Nat, x < 64 → ∀ y : Nat, y < 64 → nI x &&& zI (-1 - (y : Int)) = nI (x &&& (63 - y)) := by decide +kernel
section ZSet
variable {T : mTb} {ad : mA} {M : mM} {dp : Nat} {lim : Nat × Nat} {cal : mC} {Q : mZ} {pc : Nat} {L L' : mL} {h : mH} {zz : Nat × Nat} {r st : List Value}
theorem z_inot {x : Int} (hd : decode (mMc M) pc = .ok (.ixor, 1)) (hx : 0 ≤ x ∧ x < 64) (k : mEv T ad M dp lim cal Q (pc + 1) L (.int (zI (-1 - x)) :: r) h zz) : mEv T ad M dp lim cal Q pc L (.int (zI (-1)) :: .int (zI x) :: r) h zz := by
  refine e_ixor hd ?_
  have e := not_d x.toNat (by omega)
  rw [Int.toNat_of_nonneg hx.1] at e
  rw [zI_nI hx.1]
  show mEv T ad M dp lim cal Q (pc + 1) L (.int (nI x.toNat ^^^ (-1)) :: r) h zz
  rw [e]
  exact k
theorem z_iandn {x y : Int} (hd : decode (mMc M) pc = .ok (.iand, 1)) (hx : 0 ≤ x ∧ x < 64) (hy : 0 ≤ y ∧ y < 64) (k : mEv T ad M dp lim cal Q (pc + 1) L (.int (zI (subS x y)) :: r) h zz) : mEv T ad M dp lim cal Q pc L (.int (zI (-1 - y)) :: .int (zI x) :: r) h zz := by
  refine e_iand hd ?_
  have e := andn_d x.toNat (by omega) y.toNat (by omega)
  rw [Int.toNat_of_nonneg hy.1] at e
  rw [zI_nI hx.1, e, ← zI_nat]
  have : ((x.toNat &&& (63 - y.toNat) : Nat) : Int) = subS x y := by
    unfold subS andZ
    rw [show (63 - y).toNat = 63 - y.toNat by omega]
  rw [this]
  exact k
end ZSet
def sbs (c s : Int) : Prop := ∀ k, 0 ≤ k → k < 6 → hasZ c k → hasZ s k
def nem (c : Int) : Prop := ∃ k, (0 ≤ k ∧ k < 6) ∧ hasZ c k
def cardZ (s : Int) : Int := sm6 (fun k => bZ (hasZ s k))
theorem cardZ_b (s : Int) : 0 ≤ cardZ s ∧ cardZ s ≤ 6 := by
  have := sm6_b (f := fun k => bZ (hasZ s k)) (lo := 0) (hi := 1) (fun k _ _ => ⟨bZ_lo _, bZ_hi _⟩)
  unfold cardZ; omega
theorem card_lt {a b x : Int} (h : sbs a b) (h0 : 0 ≤ x) (h1 : x < 6) (p : hasZ b x) (n : ¬ hasZ a x) : cardZ a < cardZ b := by
  have le : ∀ k, 0 ≤ k → k < 6 → bZ (hasZ a k) ≤ bZ (hasZ b k) := fun k u v => by
    by_cases q : hasZ a k
    · rw [bZ_1 q, bZ_1 (h k u v q)]; omega
    · rw [bZ_0 q]; exact bZ_lo _
  have lx : bZ (hasZ a x) < bZ (hasZ b x) := by rw [bZ_0 n, bZ_1 p]; omega
  have l0 := le 0 (by omega) (by omega)
  have l1 := le 1 (by omega) (by omega)
  have l2 := le 2 (by omega) (by omega)
  have l3 := le 3 (by omega) (by omega)
  have l4 := le 4 (by omega) (by omega)
  have l5 := le 5 (by omega) (by omega)
  clear le
  unfold cardZ sm6
  dsimp only
  rcases (show x = 0 ∨ x = 1 ∨ x = 2 ∨ x = 3 ∨ x = 4 ∨ x = 5 by omega) with q | q | q | q | q | q <;> subst q <;> omega
theorem set_ext {a b : Int} (ha : 0 ≤ a ∧ a < 64) (hb : 0 ≤ b ∧ b < 64) (h : sbs a b) (h' : sbs b a) : a = b := by
  have : a.toNat = b.toNat := by
    apply Nat.eq_of_testBit_eq
    intro i
    by_cases q : i < 6
    · have e1 := h (i : Int) (by omega) (by omega)
      have e2 := h' (i : Int) (by omega) (by omega)
      unfold hasZ at e1 e2
      rw [Int.toNat_natCast] at e1 e2
      exact Bool.eq_iff_iff.mpr ⟨e1, e2⟩
    · have h64 := Nat.pow_le_pow_right (n := 2) (by omega) (show 6 ≤ i by omega)
      rw [Nat.testBit_lt_two_pow (show a.toNat < 2 ^ i by omega), Nat.testBit_lt_two_pow (show b.toNat < 2 ^ i by omega)]
  omega
theorem and_has {x y k : Int} : hasZ (andZ x y) k ↔ hasZ x k ∧ hasZ y k := by
  unfold andZ hasZ
  rw [Int.toNat_natCast, Nat.testBit_and, Bool.and_eq_true]
theorem nem_0 {s : Int} (h0 : 0 ≤ s) (h1 : s < 64) : s = 0 ↔ ¬ nem s := by
  constructor
  · rintro rfl ⟨k, _, p⟩
    exact has_0 k p
  · intro n
    exact set_ext ⟨h0, h1⟩ ⟨by omega, by omega⟩ (fun k a c p => absurd ⟨k, ⟨a, c⟩, p⟩ n) (fun k a c p => absurd p (has_0 k))
/-- the first of the greatest with P, as a function -/
def fmP (P : Int → Prop) [DecidablePred P] (s : Int → Int) : Nat → Int
  | 0 => -1
  | k + 1 => if P (k : Int) ∧ (fmP P s k = -1 ∨ s (fmP P s k) < s (k : Int)) then (k : Int) else fmP P s k
theorem fmP_f (P : Int → Prop) [DecidablePred P] (s : Int → Int) (k : Nat) : fmax P s (k : Int) (fmP P s k) := by
  induction k with
  | zero => exact fmax_0 _ _ (by omega)
  | succ k ih =>
    rw [show ((k + 1 : Nat) : Int) = (k : Int) + 1 by omega]
    show fmax _ s _ (if _ then _ else _)
    split
    · rename_i q; exact fmax_new ih (by omega) q.1 q.2
    · rename_i q
      by_cases p : P (k : Int)
      · exact fmax_keep ih (fun z => q ⟨p, Or.inl z⟩) (Int.not_lt.mp (fun z => q ⟨p, Or.inr z⟩))
      · exact fmax_no ih p
def scU (g : Int → Int) (d u : Int) : Int := 6 * fitZ g d u - u
def ptZ (g : Int → Int) (s d : Int) : Int := fmP (fun e => hasZ s e) (fun e => scU g d (dm g e)) (nd g).toNat
theorem pt_f {g : Int → Int} {s d : Int} (h : 0 ≤ nd g) : fmax (fun e => hasZ s e) (fun e => scU g d (dm g e)) (nd g) (ptZ g s d) := by
  have := fmP_f (fun e => hasZ s e) (fun e => scU g d (dm g e)) (nd g).toNat
  rw [Int.toNat_of_nonneg h] at this
  exact this
theorem pt_u {g : Int → Int} {s d v : Int} (h : 0 ≤ nd g) (f : fmax (fun e => hasZ s e) (fun e => scU g d (dm g e)) (nd g) v) : v = ptZ g s d := fmax_u f (pt_f h)
def okS (g : Int → Int) (s : Int) : Prop := (0 ≤ nd g ∧ nd g ≤ 6) ∧ (0 ≤ s ∧ s < 64) ∧ ∀ k, 0 ≤ k → k < 6 → hasZ s k → k < nd g ∧ dm g k ≠ -1
theorem pt_in {g : Int → Int} {s : Int} (o : okS g s) (n : nem s) (d : Int) : (0 ≤ ptZ g s d ∧ ptZ g s d < nd g) ∧ hasZ s (ptZ g s d) := by
  rcases pt_f (g := g) (s := s) (d := d) o.1.1 with ⟨h1, h2⟩ | ⟨h1, h2, h3⟩
  · obtain ⟨k, hk, p⟩ := n
    exact absurd p (h2 k hk.1 (o.2.2 k hk.1 hk.2 p).1)
  · exact ⟨h1, h2⟩
theorem pt_sub {g : Int → Int} {s s' d : Int} (h : 0 ≤ nd g ∧ nd g ≤ 6) (b : sbs s' s) (p : hasZ s' (ptZ g s d)) (v : 0 ≤ ptZ g s d) : ptZ g s' d = ptZ g s d := by
  rcases pt_f (g := g) (s := s) (d := d) h.1 with ⟨h1, h2⟩ | ⟨h1, h2, h3⟩
  · omega
  · exact (pt_u h.1 (Or.inr ⟨h1, p, fun k a c q => h3 k a c (b k a (by omega) q)⟩)).symm
def cl (g : Int → Int) (s c : Int) : Prop := ∀ k, 0 ≤ k → k < 6 → hasZ c k → hasZ c (ptZ g s k)
def ring (g : Int → Int) (s c : Int) : Prop := (0 ≤ c ∧ c < 64) ∧ nem c ∧ sbs c s ∧ cl g s c ∧ ∀ c', (0 ≤ c' ∧ c' < 64) → nem c' → sbs c' c → cl g s c' → sbs c c'
theorem ring_min {g : Int → Int} {s : Int} : ∀ (n : Nat) (c : Int), (cardZ c).toNat = n → (0 ≤ c ∧ c < 64) → nem c → sbs c s → cl g s c → ∃ c, ring g s c := by
  intro n
  induction n using Nat.strongRecOn with
  | ind n ih =>
    intro c hn hc ne sb hl
    by_cases q : ∃ c', ((0 ≤ c' ∧ c' < 64) ∧ nem c' ∧ sbs c' c ∧ cl g s c') ∧ ¬ sbs c c'
    · obtain ⟨c', ⟨q1, q2, q3, q4⟩, q5⟩ := q
      have : ∃ x, ¬ (0 ≤ x → x < 6 → hasZ c x → hasZ c' x) := Classical.not_forall.mp q5
      obtain ⟨x, hx⟩ := this
      have x0 : 0 ≤ x := Decidable.byContradiction (fun z => hx (fun a => absurd a z))
      have x1 : x < 6 := Decidable.byContradiction (fun z => hx (fun _ a => absurd a z))
      have x2 : hasZ c x := Decidable.byContradiction (fun z => hx (fun _ _ a => absurd a z))
      have x3 : ¬ hasZ c' x := fun z => hx (fun _ _ _ => z)
      have l := card_lt q3 x0 x1 x2 x3
      have b1 := cardZ_b c'
      exact ih (cardZ c').toNat (by omega) c' rfl q1 q2 (fun k a e p => sb k a e (q3 k a e p)) q4
    · exact ⟨c, hc, ne, sb, hl, fun c' a1 a2 a3 a4 => Classical.byContradiction (fun z => q ⟨c', ⟨a1, a2, a3, a4⟩, z⟩)⟩
theorem ring_ex {g : Int → Int} {s : Int} (o : okS g s) (n : nem s) : ∃ c, ring g s c := ring_min _ s rfl o.2.1 n (fun k _ _ p => p) (fun k _ _ _ => (pt_in o n k).2)
theorem ring_or {g : Int → Int} {s c c' : Int} (r : ring g s c) (r' : ring g s c') : c = c' ∨ ∀ k, 0 ≤ k → k < 6 → hasZ c k → ¬ hasZ c' k := by
  obtain ⟨a1, a2, a3, a4, a5⟩ := r
  obtain ⟨b1, b2, b3, b4, b5⟩ := r'
  have hb := andZ_b c c'
  by_cases q : nem (andZ c c')
  · have hl : cl g s (andZ c c') := fun k u v p => and_has.mpr ⟨a4 k u v (and_has.mp p).1, b4 k u v (and_has.mp p).2⟩
    have e1 := a5 _ ⟨hb.1, by omega⟩ q (fun k u v p => (and_has.mp p).1) hl
    have e2 := b5 _ ⟨hb.1, by omega⟩ q (fun k u v p => (and_has.mp p).2) hl
    exact Or.inl (set_ext a1 b1 (fun k u v p => (and_has.mp (e1 k u v p)).2) (fun k u v p => (and_has.mp (e2 k u v p)).1))
  · exact Or.inr (fun k u v p p' => q ⟨k, ⟨u, v⟩, and_has.mpr ⟨p, p'⟩⟩)
theorem okS_sub {g : Int → Int} {s c : Int} (o : okS g s) (hc : 0 ≤ c ∧ c < 64) : okS g (subS s c) ∧ sbs (subS s c) s := by
  have b := subS_b s c
  have hs := o.2.1
  have sb : sbs (subS s c) s := fun k u v p => ((subS_h hs hc u v).mp p).1
  exact ⟨⟨o.1, ⟨b.1, by omega⟩, fun k u v p => o.2.2 k u v (sb k u v p)⟩, sb⟩
theorem ring_pt {g : Int → Int} {s c : Int} (o : okS g s) (r : ring g s c) {k : Int} (h0 : 0 ≤ k) (h1 : k < 6) (p : hasZ c k) : 0 ≤ ptZ g s k ∧ ptZ g s k < 6 ∧ hasZ c (ptZ g s k) := by
  have n : nem s := ⟨k, ⟨h0, h1⟩, r.2.2.1 k h0 h1 p⟩
  have q := (pt_in o n k).1
  have := o.1
  exact ⟨q.1, by omega, r.2.2.2.1 k h0 h1 p⟩
theorem ring_sub {g : Int → Int} {s c c' : Int} (o : okS g s) (r : ring g s c) (r' : ring g s c') (dj : ∀ k, 0 ≤ k → k < 6 → hasZ c k → ¬ hasZ c' k) : ring g (subS s c) c' ∧ ∀ k, 0 ≤ k → k < 6 → hasZ c' k → ptZ g (subS s c) k = ptZ g s k := by
  obtain ⟨o2, sb⟩ := okS_sub o r.1
  have inS : sbs c' (subS s c) := fun k u v p => (subS_h o.2.1 r.1 u v).mpr ⟨r'.2.2.1 k u v p, fun z => dj k u v z p⟩
  have ep : ∀ k, 0 ≤ k → k < 6 → hasZ c' k → ptZ g (subS s c) k = ptZ g s k := fun k u v p => by
    have q := ring_pt o r' u v p
    exact pt_sub o.1 sb (inS _ q.1 q.2.1 q.2.2) q.1
  refine ⟨⟨r'.1, r'.2.1, inS, fun k u v p => by rw [ep k u v p]; exact r'.2.2.2.1 k u v p, fun d d1 d2 d3 d4 => r'.2.2.2.2 d d1 d2 d3 (fun k u v p => ?_)⟩, ep⟩
  have := d4 k u v p
  rw [ep k u v (d3 k u v p)] at this
  exact this
/-- n rings, one after another, and who gets whom -/
def ttR (g : Int → Int) : Nat → Int → (Int → Int) → Prop
  | 0, s, _ => ¬ nem s
  | n + 1, s, r => ∃ c, ring g s c ∧ (∀ k, 0 ≤ k → k < 6 → hasZ c k → r k = dm g (ptZ g s k)) ∧ ttR g n (subS s c) r
theorem tt_cg {g : Int → Int} : ∀ (n : Nat) (s : Int) (r r' : Int → Int), okS g s → (∀ k, 0 ≤ k → k < 6 → hasZ s k → r k = r' k) → ttR g n s r → ttR g n s r' := by
  intro n
  induction n with
  | zero => intro s r r' _ _ h; exact h
  | succ n ih =>
    intro s r r' o e h
    obtain ⟨c, h1, h2, h3⟩ := h
    obtain ⟨o2, sb⟩ := okS_sub o h1.1
    exact ⟨c, h1, fun k u v p => (e k u v (h1.2.2.1 k u v p)).symm.trans (h2 k u v p), ih _ r r' o2 (fun k u v p => e k u v (sb k u v p)) h3⟩
theorem ring_card {g : Int → Int} {s c : Int} (o : okS g s) (r : ring g s c) : cardZ (subS s c) < cardZ s := by
  obtain ⟨k, hk, p⟩ := r.2.1
  exact card_lt (okS_sub o r.1).2 hk.1 hk.2 (r.2.2.1 k hk.1 hk.2 p) (fun z => ((subS_h o.2.1 r.1 hk.1 hk.2).mp z).2 p)
def mixR (g : Int → Int) (s c : Int) (q : Int → Int) : Int → Int := fun k => if hasZ c k then dm g (ptZ g s k) else q k
theorem tt_add {g : Int → Int} {s c : Int} {n : Nat} {q : Int → Int} (o : okS g s) (r : ring g s c) (h : ttR g n (subS s c) q) : ttR g (n + 1) s (mixR g s c q) := by
  obtain ⟨o2, sb⟩ := okS_sub o r.1
  refine ⟨c, r, fun k u v p => if_pos p, tt_cg n _ q _ o2 (fun k u v p => ?_) h⟩
  exact (if_neg ((subS_h o.2.1 r.1 u v).mp p).2).symm
theorem tt_ex {g : Int → Int} : ∀ (m : Nat) (s : Int), (cardZ s).toNat = m → okS g s → ∃ n r, ttR g n s r := by
  intro m
  induction m using Nat.strongRecOn with
  | ind m ih =>
    intro s hm o
    by_cases n : nem s
    · obtain ⟨c, r⟩ := ring_ex o n
      have l := ring_card o r
      have b1 := cardZ_b (subS s c)
      obtain ⟨n2, q, h⟩ := ih _ (by omega) (subS s c) rfl (okS_sub o r.1).1
      exact ⟨n2 + 1, _, tt_add o r h⟩
    · exact ⟨0, fun _ => 0, n⟩
theorem tt_u {g : Int → Int} : ∀ (m : Nat) (s : Int), (cardZ s).toNat = m → okS g s → ∀ (n n' : Nat) (r r' : Int → Int), ttR g n s r → ttR g n' s r' → n = n' ∧ ∀ k, 0 ≤ k → k < 6 → hasZ s k → r k = r' k := by
  intro m
  induction m using Nat.strongRecOn with
  | ind m ih =>
    intro s hm o n n' r r' h h'
    cases n with
    | zero =>
      cases n' with
      | zero => exact ⟨rfl, fun k u v p => absurd ⟨k, ⟨u, v⟩, p⟩ h⟩
      | succ n' =>
        obtain ⟨c, w, -⟩ := h'
        obtain ⟨k, hk, p⟩ := w.2.1
        exact absurd ⟨k, hk, w.2.2.1 k hk.1 hk.2 p⟩ h
    | succ n =>
      cases n' with
      | zero =>
        obtain ⟨c, w, -⟩ := h
        obtain ⟨k, hk, p⟩ := w.2.1
        exact absurd ⟨k, hk, w.2.2.1 k hk.1 hk.2 p⟩ h'
      | succ n' =>
        obtain ⟨c, w1, w2, w3⟩ := h
        obtain ⟨c', y1, y2, y3⟩ := h'
        obtain ⟨o1, sb1⟩ := okS_sub o w1.1
        obtain ⟨o2, sb2⟩ := okS_sub o y1.1
        have l1 := ring_card o w1
        have l2 := ring_card o y1
        have b1 := cardZ_b (subS s c)
        have b2 := cardZ_b (subS s c')
        rcases ring_or w1 y1 with e | dj
        · subst e
          obtain ⟨e1, e2⟩ := ih _ (by omega) (subS s c) rfl o1 n n' r r' w3 y3
          refine ⟨by omega, fun k u v p => ?_⟩
          by_cases q : hasZ c k
          · rw [w2 k u v q, y2 k u v q]
          · exact e2 k u v ((subS_h o.2.1 w1.1 u v).mpr ⟨p, q⟩)
        · have dj' : ∀ k, 0 ≤ k → k < 6 → hasZ c' k → ¬ hasZ c k := fun k u v p z => dj k u v z p
          obtain ⟨x1, x2⟩ := ring_sub o w1 y1 dj
          obtain ⟨x3, x4⟩ := ring_sub o y1 w1 dj'
          obtain ⟨o3, sb3⟩ := okS_sub o1 y1.1
          obtain ⟨o4, sb4⟩ := okS_sub o2 w1.1
          obtain ⟨j, q, hq⟩ := tt_ex _ (subS (subS s c) c') rfl o3
          have same : subS (subS s c) c' = subS (subS s c') c := set_ext o3.2.1 o4.2.1 (fun k u v p => by
            have z := (subS_h o1.2.1 y1.1 u v).mp p
            have z2 := (subS_h o.2.1 w1.1 u v).mp z.1
            exact (subS_h o2.2.1 w1.1 u v).mpr ⟨(subS_h o.2.1 y1.1 u v).mpr ⟨z2.1, z.2⟩, z2.2⟩) (fun k u v p => by
            have z := (subS_h o2.2.1 w1.1 u v).mp p
            have z2 := (subS_h o.2.1 y1.1 u v).mp z.1
            exact (subS_h o1.2.1 y1.1 u v).mpr ⟨(subS_h o.2.1 w1.1 u v).mpr ⟨z2.1, z.2⟩, z2.2⟩)
          have t1 := tt_add o1 x1 hq
          rw [same] at hq
          have t2 := tt_add o2 x3 hq
          obtain ⟨e1, e2⟩ := ih _ (by omega) (subS s c) rfl o1 n (j + 1) r _ w3 t1
          obtain ⟨f1, f2⟩ := ih _ (by omega) (subS s c') rfl o2 n' (j + 1) r' _ y3 t2
          refine ⟨by omega, fun k u v p => ?_⟩
          by_cases q1 : hasZ c k
          · rw [w2 k u v q1, f2 k u v ((subS_h o.2.1 y1.1 u v).mpr ⟨p, dj k u v q1⟩)]
            unfold mixR
            rw [if_pos q1, x4 k u v q1]
          · by_cases q2 : hasZ c' k
            · rw [y2 k u v q2, e2 k u v ((subS_h o.2.1 w1.1 u v).mpr ⟨p, q1⟩)]
              unfold mixR
              rw [if_pos q2, x2 k u v q2]
            · rw [e2 k u v ((subS_h o.2.1 w1.1 u v).mpr ⟨p, q1⟩), f2 k u v ((subS_h o.2.1 y1.1 u v).mpr ⟨p, q2⟩)]
              unfold mixR
              rw [if_neg q1, if_neg q2]
