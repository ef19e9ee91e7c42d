/-! ROWS of the class: full rows -/
/-! ROWS of the class: full rows -/
theorem sumZ_le {f f' : Int → Int} {n : Nat} (h : ∀ i : Int, 0 ≤ i → i < n → f i ≤ f' i) : sumZ f n ≤ sumZ f' n := by
  induction n with
  | zero => exact Int.le_refl _
  | succ n ih =>
    have a := ih (fun i x y => h i x (by omega))
    have c := h (n : Int) (by omega) (by omega)
    show sumZ f n + f (n : Int) ≤ sumZ f' n + f' (n : Int)
    omega
theorem sumZ_lt {f f' : Int → Int} {n : Nat} (h : ∀ i : Int, 0 ≤ i → i < n → f i ≤ f' i) {d : Int} (d0 : 0 ≤ d) (d1 : d < n) (l : f d < f' d) : sumZ f n < sumZ f' n := by
  induction n with
  | zero => omega
  | succ n ih =>
    have c := h (n : Int) (by omega) (by omega)
    show sumZ f n + f (n : Int) < sumZ f' n + f' (n : Int)
    by_cases q : d < n
    · have a := ih (fun i x y => h i x (by omega)) q
      omega
    · have a := sumZ_le (f := f) (f' := f') (n := n) (fun i x y => h i x (by omega))
      rw [show d = (n : Int) by omega] at l
      omega
theorem sumZ_0 (n : Nat) : sumZ (fun _ => 0) n = 0 := by
  induction n with
  | zero => rfl
  | succ n ih => show sumZ (fun _ => 0) n + 0 = 0; rw [ih]; rfl
theorem sumZ_ad (f f' : Int → Int) (n : Nat) : sumZ (fun i => f i + f' i) n = sumZ f n + sumZ f' n := by
  induction n with
  | zero => rfl
  | succ n ih =>
    show sumZ (fun i => f i + f' i) n + (f (n : Int) + f' (n : Int)) = (sumZ f n + f (n : Int)) + (sumZ f' n + f' (n : Int))
    rw [ih]; omega
theorem sumZ_sw (f : Int → Int → Int) (m n : Nat) : sumZ (fun a => sumZ (fun c => f a c) n) m = sumZ (fun c => sumZ (fun a => f a c) m) n := by
  induction m with
  | zero => exact (sumZ_0 n).symm
  | succ m ih =>
    show sumZ (fun a => sumZ (fun c => f a c) n) m + sumZ (fun c => f (m : Int) c) n = sumZ (fun c => sumZ (fun a => f a c) m + f (m : Int) c) n
    rw [ih, sumZ_ad]
theorem sumZ_1 (x : Int) (n : Nat) : sumZ (fun u => bZ (x = u)) n = bZ (0 ≤ x ∧ x < n) := by
  induction n with
  | zero => exact (bZ_0 (by omega)).symm
  | succ n ih =>
    show sumZ (fun u => bZ (x = u)) n + bZ (x = (n : Int)) = _
    rw [ih]
    by_cases q : x = (n : Int)
    · rw [bZ_0 (by omega), bZ_1 q, bZ_1 (by omega)]; rfl
    · by_cases w : 0 ≤ x ∧ x < n
      · rw [bZ_1 w, bZ_0 q, bZ_1 (by omega)]; rfl
      · rw [bZ_0 w, bZ_0 q, bZ_0 (by omega)]; rfl
theorem in_ups {r : Int → Int} {n : Int} (n0 : 0 ≤ n ∧ n ≤ 6) (h : ∀ u, 0 ≤ u → u < n → ∃ d, (0 ≤ d ∧ d < 6) ∧ r d = u) : n ≤ inR r := by
  have a : sumZ (fun d => sumZ (fun u => bZ (r d = u)) n.toNat) 6 ≤ inR r := sumZ_le (fun d _ _ => by
    rw [sumZ_1]
    by_cases q : r d < 6
    · rw [bZ_1 q]; exact bZ_hi _
    · rw [bZ_0 (by omega)]; exact bZ_lo _)
  rw [sumZ_sw] at a
  have c := sumZ_le (f := fun _ => 1) (f' := fun u => sumZ (fun d => bZ (r d = u)) 6) (n := n.toNat) (fun u u0 u1 => by
    obtain ⟨d, hd, e⟩ := h u u0 (by omega)
    have t : bZ (r d = u) ≤ sumZ (fun d => bZ (r d = u)) 6 := sumZ_ge (f := fun d => bZ (r d = u)) (n := 6) (fun _ _ _ => bZ_lo _) hd.1 (by omega)
    have w : bZ (r d = u) = 1 := bZ_1 e
    show 1 ≤ sumZ (fun d => bZ (r d = u)) 6
    omega)
  have s := sumZ_b (f := fun _ => 1) (lo := 1) (hi := 1) (n := n.toNat) (fun _ _ _ => by omega)
  omega
theorem in_downs {g r : Int → Int} (n : 0 ≤ nd g ∧ nd g ≤ 6) (w : isRw g r) (h : ∀ d, 0 ≤ d → d < nd g → r d ≠ 6) (b : rbs r) : nd g ≤ inR r := by
  rw [inR_n n w]
  have s := sumZ_b (f := fun d => bZ (r d < 6)) (lo := 1) (hi := 1) (n := (nd g).toNat) (fun d a c => by
    have := h d a (by omega)
    have := b d a (by omega)
    rw [bZ_1 (by omega)]; omega)
  omega
theorem rw_free {g r : Int → Int} (n : (0 ≤ nd g ∧ nd g ≤ 6) ∧ (0 ≤ nu g ∧ nu g ≤ 6)) (w : isRw g r) (h : inR r < min (nd g) (nu g)) : ∃ d u, (0 ≤ d ∧ d < nd g) ∧ (0 ≤ u ∧ u < nu g) ∧ r d = 6 ∧ ∀ e, 0 ≤ e → e < 6 → r e ≠ u := by
  have hd : ∃ d, (0 ≤ d ∧ d < nd g) ∧ r d = 6 := Classical.byContradiction (fun q => by
    have := in_downs n.1 w (fun d a c z => q ⟨d, ⟨a, c⟩, z⟩) (isRw_b n.2.2 w)
    omega)
  have hu : ∃ u, (0 ≤ u ∧ u < nu g) ∧ ∀ e, 0 ≤ e → e < 6 → r e ≠ u := Classical.byContradiction (fun q => by
    have := in_ups (r := r) n.2 (fun u a c => Classical.byContradiction (fun z => q ⟨u, ⟨a, c⟩, fun e e0 e1 x => z ⟨e, ⟨e0, e1⟩, x⟩⟩))
    omega)
  obtain ⟨d, d0, d1⟩ := hd
  obtain ⟨u, u0, u1⟩ := hu
  exact ⟨d, u, d0, u0, d1, u1⟩
theorem stn_fu {g r : Int → Int} (n : (0 ≤ nd g ∧ nd g ≤ 6) ∧ (0 ≤ nu g ∧ nu g ≤ 6)) (w : isRw g r) (s : stn g r) : min (nd g) (nu g) ≤ inR r := Classical.byContradiction (fun q => by
  obtain ⟨d, u, d0, u0, d1, u1⟩ := rw_free n w (by omega)
  exact stn_full s d0.1 d0.2 u0.1 u0.2 d1 u1)
theorem rw_grow {g : Int → Int} (n : (0 ≤ nd g ∧ nd g ≤ 6) ∧ (0 ≤ nu g ∧ nu g ≤ 6)) : ∀ (m : Nat) (r : Int → Int), (6 - inR r).toNat = m → isRw g r → ∃ r', isRw g r' ∧ min (nd g) (nu g) ≤ inR r' ∧ sfR g r ≤ sfR g r' ∧ cdZ r' 6 ≤ cdZ r 6 := by
  intro m
  induction m using Nat.strongRecOn with
  | ind m ih =>
    intro r hm w
    by_cases q : min (nd g) (nu g) ≤ inR r
    · exact ⟨r, w, q, Int.le_refl _, Int.le_refl _⟩
    · obtain ⟨d, u, d0, u0, d1, u1⟩ := rw_free n w (by omega)
      have w1 := cpR_w w d0 u0 u1
      have ed : cpR r d u d = u := if_pos rfl
      have eo : ∀ k, k ≠ d → cpR r d u k = r k := fun k z => if_neg z
      have i1 : inR r < inR (cpR r d u) := sumZ_lt (d := d) (fun k a c => by
        by_cases z : k = d
        · rw [z, d1, bZ_0 (by omega)]; exact bZ_lo _
        · rw [eo k z]; exact Int.le_refl _) d0.1 (by omega) (by
          show bZ (r d < 6) < bZ (cpR r d u d < 6)
          rw [ed, d1, bZ_0 (by omega), bZ_1 (by omega)]; omega)
      have s1 : sfR g r ≤ sfR g (cpR r d u) := sumZ_le (fun k a c => by
        by_cases z : k = d
        · rw [z, d1, if_neg (by omega), ed, if_pos (by omega)]
          have := fitZ_b g d u
          omega
        · rw [eo k z]; exact Int.le_refl _)
      have c1 : cdZ (cpR r d u) 6 ≤ cdZ r 6 := sumZ_le (fun k a c => by
        have sb := sc_b (n := k + 1) (by omega) (by omega)
        by_cases z : k = d
        · rw [z, ed, d1]; exact Int.mul_le_mul_of_nonneg_right (by omega) (by rw [← z]; omega)
        · rw [eo k z]; exact Int.le_refl _)
      have b1 := inR_b (cpR r d u)
      obtain ⟨r', a1, a2, a3, a4⟩ := ih _ (by omega) (cpR r d u) rfl w1
      exact ⟨r', a1, a2, by omega, by omega⟩
/-- what the class's search looks for -/
def pSr (g : Int → Int) (how k : Int) : Prop := fuK g k ∧ (how = 3 → stn g (dgZ k))
def wRr (g : Int → Int) (how : Int) (r : Int → Int) : Int := if how = 3 then - chR g r else if how = 4 then sfR g r else (if lfR g r = 1000000 then -1 else lfR g r)
def wSr (g : Int → Int) (how k : Int) : Int := wRr g how (dgZ k)
def srP (g : Int → Int) (how k : Int) : Prop := k ≠ -1 ∧ fmax (pSr g how) (wSr g how) 117649 k
theorem WR_b {g : Int → Int} (n : 0 ≤ nd g ∧ nd g ≤ 6) (how : Int) (r : Int → Int) : -999 ≤ wRr g how r ∧ wRr g how r ≤ 1000000 := by
  have a := chR_b n r
  have c := sfR_b g r
  have e : 0 ≤ lfR g r ∧ lfR g r ≤ 1000000 := lm_b g r 6
  unfold wRr
  split
  · omega
  · split
    · omega
    · split <;> omega
theorem WR_3 (g r : Int → Int) : -(wRr g 3 r) = chR g r := by unfold wRr; rw [if_pos rfl]; omega
theorem WR_4 (g r : Int → Int) : wRr g 4 r = sfR g r := by unfold wRr; rw [if_neg (by omega), if_pos rfl]
theorem WR_5 (g r : Int → Int) : wRr g 5 r = if lfR g r = 1000000 then -1 else lfR g r := by unfold wRr; rw [if_neg (by omega), if_neg (by omega)]
theorem pSr_ex {g : Int → Int} (n : (0 ≤ nd g ∧ nd g ≤ 6) ∧ (0 ≤ nu g ∧ nu g ≤ 6)) (how : Int) : ∃ k, (0 ≤ k ∧ k < 117649) ∧ pSr g how k := by
  obtain ⟨k, hk, v⟩ := vaB_ex n 3
  have a := (va3 n).mp v
  exact ⟨k, hk, ⟨a.1, stn_fu n a.1 a.2⟩, fun _ => a.2⟩
theorem sr_v {g : Int → Int} {how k : Int} (h : srP g how k) : (0 ≤ k ∧ k < 117649) ∧ pSr g how k ∧ ∀ j, 0 ≤ j → j < 117649 → pSr g how j → wSr g how j < wSr g how k ∨ (wSr g how j = wSr g how k ∧ k ≤ j) := by
  rcases h.2 with q | q
  · exact absurd q.1 h.1
  · exact q
theorem sr_4 {g : Int → Int} (n : (0 ≤ nd g ∧ nd g ≤ 6) ∧ (0 ≤ nu g ∧ nu g ≤ 6)) {k : Int} (h : srP g 4 k) : fmax (vaB g 4) (wtK g 4) 117649 k := by
  obtain ⟨h1, h2, h3⟩ := sr_v h
  have e4 : ∀ j, wtK g 4 j = sfR g (dgZ j) := fun j => by unfold wtK wtB; rw [if_neg (by omega), if_pos rfl]
  have w4 : ∀ j, wSr g 4 j = sfR g (dgZ j) := fun j => WR_4 g (dgZ j)
  refine Or.inr ⟨h1, ⟨h2.1.1, ?_⟩, fun j a c v => ?_⟩
  · have := sfR_b g (dgZ k)
    have e : wtB g 4 (dgZ k) = sfR g (dgZ k) := e4 k
    omega
  · obtain ⟨r', a1, a2, a3, a4⟩ := rw_grow n _ (dgZ j) rfl v.1
    obtain ⟨b1, b2⟩ := dg_row (isRw_b n.2.2 a1)
    have p : pSr g 4 (cdZ r' 6) := ⟨⟨isRw_e a1 b2, by rw [inR_e b2]; exact a2⟩, fun z => absurd z (by omega)⟩
    have q := h3 (cdZ r' 6) b1.1 b1.2 p
    rw [w4, w4, sf_e b2] at q
    rw [dg_k a c] at a4
    rw [e4, e4]
    omega
theorem lf_30 {g r : Int → Int} : ∀ n : Nat, n ≤ 6 → lmN g r n ≤ 30 ∨ (lmN g r n = 1000000 ∧ sumZ (fun d => bZ (r d < 6)) n = 0) := by
  intro n
  induction n with
  | zero => intro _; exact Or.inr ⟨rfl, rfl⟩
  | succ n ih =>
    intro hn
    have e : lmN g r (n + 1) = if r (n : Int) < 6 then min (lmN g r n) (fitZ g n (r (n : Int))) else lmN g r n := rfl
    have e2 : sumZ (fun d => bZ (r d < 6)) (n + 1) = sumZ (fun d => bZ (r d < 6)) n + bZ (r (n : Int) < 6) := rfl
    have fb := fitZ_b g n (r (n : Int))
    rw [e, e2]
    by_cases q : r (n : Int) < 6
    · rw [if_pos q]; left; omega
    · rw [if_neg q, bZ_0 q]
      rcases ih (by omega) with z | z
      · exact Or.inl z
      · exact Or.inr ⟨z.1, by omega⟩
theorem lf_in (g r : Int → Int) : (lfR g r ≤ 30) ∨ (lfR g r = 1000000 ∧ inR r = 0) := lf_30 6 (by omega)
theorem rw_0 {g : Int → Int} {k : Int} (m : nd g ≤ 0 ∨ nu g ≤ 0) (h : isRw g (dgZ k)) : ∀ d, 0 ≤ d → d < 6 → dgZ k d = 6 := fun d a c => by
  rcases h d a c with q | q
  · exact q
  · omega
theorem inR_0 {r : Int → Int} (h : ∀ d, 0 ≤ d → d < 6 → r d = 6) : inR r = 0 := by
  have : inR r = sumZ (fun _ => 0) 6 := sumZ_e (fun d a c => bZ_0 (by rw [h d a (by omega)]; omega))
  rw [this]; exact sumZ_0 6
theorem lf_0 {g r : Int → Int} (h : ∀ d, 0 ≤ d → d < 6 → r d = 6) : lfR g r = 1000000 := by
  have : ∀ n : Nat, n ≤ 6 → lmN g r n = 1000000 := by
    intro n
    induction n with
    | zero => intro _; rfl
    | succ n ih =>
      intro hn
      have e : lmN g r (n + 1) = if r (n : Int) < 6 then min (lmN g r n) (fitZ g n (r (n : Int))) else lmN g r n := rfl
      rw [e, if_neg (by rw [h n (by omega) (by omega)]; omega), ih (by omega)]
  exact this 6 (by omega)
theorem va_5 {g : Int → Int} {k : Int} : (vaB g 5 k → fuK g k) ∧ (fuK g k → vaB g 5 k ∧ wtK g 5 k = lfR g (dgZ k)) := by
  have lb : 0 ≤ lfR g (dgZ k) ∧ lfR g (dgZ k) ≤ 1000000 := lm_b g (dgZ k) 6
  have e : wtB g 5 (dgZ k) = if inR (dgZ k) < min (nd g) (nu g) then -1000000 else lfR g (dgZ k) := by unfold wtB; rw [if_neg (by omega), if_neg (by omega)]
  constructor
  · intro v
    refine ⟨v.1, ?_⟩
    have v2 := v.2
    rw [e] at v2
    by_cases q : inR (dgZ k) < min (nd g) (nu g)
    · rw [if_pos q] at v2; omega
    · omega
  · intro f
    have f2 := f.2
    have e3 : wtB g 5 (dgZ k) = lfR g (dgZ k) := by rw [e, if_neg (by omega)]
    exact ⟨⟨f.1, by rw [e3]; omega⟩, e3⟩
theorem sr_5 {g : Int → Int} (n : (0 ≤ nd g ∧ nd g ≤ 6) ∧ (0 ≤ nu g ∧ nu g ≤ 6)) {k : Int} (h : srP g 5 k) : fmax (vaB g 5) (wtK g 5) 117649 k := by
  obtain ⟨h1, h2, h3⟩ := sr_v h
  refine Or.inr ⟨h1, (va_5.2 h2.1).1, fun j a c v => ?_⟩
  have fj := va_5.1 v
  by_cases m : nd g ≤ 0 ∨ nu g ≤ 0
  · have e : j = k := dg_u a c h1.1 h1.2 (fun d x y => by rw [rw_0 m fj.1 d x y, rw_0 m h2.1.1 d x y])
    rw [e]; exact Or.inr ⟨rfl, Int.le_refl _⟩
  · have q := h3 j a c ⟨fj, fun z => absurd z (by omega)⟩
    have i1 := fj.2
    have i2 := h2.1.2
    have l1 := lf_in g (dgZ j)
    have l2 := lf_in g (dgZ k)
    have e1 : wSr g 5 j = lfR g (dgZ j) := by rw [show wSr g 5 j = _ from WR_5 g (dgZ j), if_neg (by omega)]
    have e2 : wSr g 5 k = lfR g (dgZ k) := by rw [show wSr g 5 k = _ from WR_5 g (dgZ k), if_neg (by omega)]
    rw [e1, e2] at q
    rw [(va_5.2 fj).2, (va_5.2 h2.1).2]
    exact q
theorem sr_R {g : Int → Int} (n : (0 ≤ nd g ∧ nd g ≤ 6) ∧ (0 ≤ nu g ∧ nu g ≤ 6)) {how k : Int} (hh : how = 3 ∨ how = 4 ∨ how = 5) (h : srP g how k) : rwR g how (dgZ k) := by
  obtain ⟨h1, h2, h3⟩ := sr_v h
  refine ⟨h2.1.1, ?_⟩
  rcases hh with q | q | q <;> subst q
  · exact Or.inr (Or.inl ⟨by omega, h2.2 rfl⟩)
  · exact Or.inr (Or.inr ⟨by omega, k, h1, sr_4 n h, fun d _ _ => rfl⟩)
  · exact Or.inr (Or.inr ⟨by omega, k, h1, sr_5 n h, fun d _ _ => rfl⟩)
theorem sr_0 {g : Int → Int} {k v : Int} (h : srP g 3 k) (e : v = -(wSr g 3 k)) : rwsP g 0 v := by
  obtain ⟨h1, h2, h3⟩ := sr_v h
  exact Or.inl ⟨rfl, dgZ k, h2.1.1, h2.2 rfl, e.trans (WR_3 g (dgZ k))⟩
theorem sr_1 {g : Int → Int} (n : (0 ≤ nd g ∧ nd g ≤ 6) ∧ (0 ≤ nu g ∧ nu g ≤ 6)) {k v : Int} (h : srP g 4 k) (e : v = wSr g 4 k) : rwsP g 1 v := by
  refine Or.inr (Or.inl ⟨rfl, k, sr_4 n h, e.trans ?_⟩)
  rw [show wSr g 4 k = _ from WR_4 g (dgZ k)]
  unfold wtK wtB
  rw [if_neg (by omega), if_pos rfl]
theorem sr_2 {g : Int → Int} (n : (0 ≤ nd g ∧ nd g ≤ 6) ∧ (0 ≤ nu g ∧ nu g ≤ 6)) {k v : Int} (h : srP g 5 k) (e : v = wSr g 5 k) : rwsP g 2 v := by
  obtain ⟨h1, h2, h3⟩ := sr_v h
  rw [show wSr g 5 k = _ from WR_5 g (dgZ k)] at e
  refine Or.inr (Or.inr (Or.inl ⟨rfl, ?_⟩))
  by_cases m : nd g ≤ 0 ∨ nu g ≤ 0
  · left
    rw [if_pos (lf_0 (rw_0 m h2.1.1))] at e
    exact ⟨by omega, e⟩
  · right
    have i2 := h2.1.2
    have l2 := lf_in g (dgZ k)
    rw [if_neg (by omega)] at e
    exact ⟨by omega, k, sr_5 n h, e.trans (va_5.2 h2.1).2.symm⟩
