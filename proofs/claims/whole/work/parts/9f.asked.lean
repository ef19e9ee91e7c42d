/-! ASKED: what stays, and that it stands -/
/-! ASKED: one side asks, the other keeps the best (A: who was asked, H: whom each holds, L: who is held) -/
def daI (K : Int → Int → Int) (na no : Int) (A H L : Int → Int) : Prop := (∀ a, 0 ≤ a → a < 6 → 0 ≤ A a ∧ A a < 64) ∧ (∀ b, 0 ≤ b → b < 6 → H b = 6 ∨ ((b < no ∧ (0 ≤ H b ∧ H b < 6) ∧ H b < na ∧ hasZ (A (H b)) b) ∧ ∀ x, 0 ≤ x → x < 6 → H x = H b → x = b)) ∧ (∀ a, 0 ≤ a → a < 6 → (L a = 0 ∧ ∀ b, 0 ≤ b → b < 6 → H b ≠ a) ∨ (L a = 1 ∧ ∃ b, (0 ≤ b ∧ b < 6) ∧ H b = a)) ∧ (∀ a b, 0 ≤ a → a < na → 0 ≤ b → b < no → hasZ (A a) b → H b ≠ 6 ∧ K a b ≤ K (H b) b) ∧ ∀ a b x, 0 ≤ a → a < na → 0 ≤ b → b < no → 0 ≤ x → x < no → hasZ (A a) b → K a b < K a x → hasZ (A a) x
theorem daI_0 (K : Int → Int → Int) (na no : Int) {A H L : Int → Int} (h : ∀ x, 0 ≤ x → x < 6 → A x = 0 ∧ H x = 6 ∧ L x = 0) (n : na ≤ 6) : daI K na no A H L := by
  refine ⟨fun a u v => by rw [(h a u v).1]; omega, fun b u v => Or.inl (h b u v).2.1, fun a u v => Or.inl ⟨(h a u v).2.2, fun b x y => by rw [(h b x y).2.1]; omega⟩, fun a b u v x y z => ?_, fun a b x u v _ _ _ _ z => ?_⟩
  · rw [(h a u (by omega)).1] at z; exact absurd z (has_0 b)
  · rw [(h a u (by omega)).1] at z; exact absurd z (has_0 b)
/-- a asks b, the best whom he has not asked -/
theorem daI_ask {K : Int → Int → Int} {na no : Int} {A H L A' H' L' : Int → Int} {a b : Int} (n : na ≤ 6 ∧ no ≤ 6) (I : daI K na no A H L) (a0 : 0 ≤ a) (a1 : a < na) (b0 : 0 ≤ b) (b1 : b < no) (nh : ∀ x, 0 ≤ x → x < 6 → H x ≠ a) (nb : ¬ hasZ (A a) b) (bs : ∀ x, 0 ≤ x → x < no → K a b < K a x → hasZ (A a) x) (eA : A' a = orZ (A a) (shlZ 1 b)) (oA : ∀ x, 0 ≤ x → x < 6 → x ≠ a → A' x = A x)
    (q : ((H b = 6 ∨ K (H b) b < K a b) ∧ H' b = a ∧ (∀ x, 0 ≤ x → x < 6 → x ≠ b → H' x = H x) ∧ L' a = 1 ∧ (∀ x, 0 ≤ x → x < 6 → x ≠ a → x = H b → L' x = 0) ∧ ∀ x, 0 ≤ x → x < 6 → x ≠ a → x ≠ H b → L' x = L x) ∨ (¬ (H b = 6 ∨ K (H b) b < K a b) ∧ (∀ x, 0 ≤ x → x < 6 → H' x = H x) ∧ ∀ x, 0 ≤ x → x < 6 → L' x = L x)) : daI K na no A' H' L' := by
  obtain ⟨i1, i2, i3, i4, i5⟩ := I
  have hA : ∀ x y, 0 ≤ x → x < 6 → 0 ≤ y → y < 6 → (hasZ (A' x) y ↔ hasZ (A x) y ∨ (x = a ∧ y = b)) := fun x y x0 x1 y0 y1 => by
    by_cases z : x = a
    · rw [z, eA, or1_has b0 y0]
      exact ⟨fun w => w.elim Or.inl (fun w => Or.inr ⟨rfl, w⟩), fun w => w.elim Or.inl (fun w => Or.inr w.2)⟩
    · rw [oA x x0 x1 z]
      exact ⟨Or.inl, fun w => w.elim id (fun w => absurd w.1 z)⟩
  have j1 : ∀ x, 0 ≤ x → x < 6 → 0 ≤ A' x ∧ A' x < 64 := fun x u v => by
    by_cases z : x = a
    · rw [z, eA]; exact or_b (i1 a a0 (by omega)).2 (by omega)
    · rw [oA x u v z]; exact i1 x u v
  have j5 : ∀ x y z, 0 ≤ x → x < na → 0 ≤ y → y < no → 0 ≤ z → z < no → hasZ (A' x) y → K x y < K x z → hasZ (A' x) z := fun x y z x0 x1 y0 y1 z0 z1 w l => by
    rcases (hA x y x0 (by omega) y0 (by omega)).mp w with w | w
    · exact (hA x z x0 (by omega) z0 (by omega)).mpr (Or.inl (i5 x y z x0 x1 y0 y1 z0 z1 w l))
    · rw [w.1, w.2] at l
      rw [w.1]
      exact (hA a z a0 (by omega) z0 (by omega)).mpr (Or.inl (bs z z0 z1 l))
  rcases q with ⟨q1, q2, q3, q4, q5, q6⟩ | ⟨q1, q2, q3⟩
  · refine ⟨j1, fun x u v => ?_, fun x u v => ?_, fun x y x0 x1 y0 y1 w => ?_, j5⟩
    · by_cases z : x = b
      · refine Or.inr ⟨⟨by omega, by rw [z, q2]; omega, by rw [z, q2]; omega, by rw [z, q2]; exact (hA a b a0 (by omega) b0 (by omega)).mpr (Or.inr ⟨rfl, rfl⟩)⟩, fun y y0 y1 w => ?_⟩
        by_cases t : y = b
        · rw [t, z]
        · rw [z, q2, q3 y y0 y1 t] at w; exact absurd w (nh y y0 y1)
      · rw [q3 x u v z]
        rcases i2 x u v with w | w
        · exact Or.inl w
        · refine Or.inr ⟨⟨w.1.1, w.1.2.1, w.1.2.2.1, (hA _ x w.1.2.1.1 w.1.2.1.2 u v).mpr (Or.inl w.1.2.2.2)⟩, fun y y0 y1 t => ?_⟩
          by_cases s : y = b
          · rw [s, q2] at t; exact absurd t.symm (nh x u v)
          · rw [q3 y y0 y1 s] at t; exact w.2 y y0 y1 t
    · by_cases z : x = a
      · rw [z]; exact Or.inr ⟨q4, b, ⟨b0, by omega⟩, q2⟩
      · by_cases t : x = H b
        · refine Or.inl ⟨q5 x u v z t, fun y y0 y1 w => ?_⟩
          by_cases s : y = b
          · rw [s, q2] at w; exact z w.symm
          · rw [q3 y y0 y1 s] at w
            rcases i2 b b0 (by omega) with k | k
            · omega
            · exact s (k.2 y y0 y1 (by omega))
        · rw [q6 x u v z t]
          rcases i3 x u v with w | ⟨w1, y, w2, w3⟩
          · refine Or.inl ⟨w.1, fun y y0 y1 k => ?_⟩
            by_cases s : y = b
            · rw [s, q2] at k; exact z k.symm
            · rw [q3 y y0 y1 s] at k; exact w.2 y y0 y1 k
          · refine Or.inr ⟨w1, y, w2, ?_⟩
            rw [q3 y w2.1 w2.2 (fun s => t (by rw [← s]; exact w3.symm))]; exact w3
    · by_cases z : y = b
      · rw [z] at w ⊢
        rw [q2]
        refine ⟨by omega, ?_⟩
        rcases (hA x b x0 (by omega) b0 (by omega)).mp w with w | w
        · have k := i4 x b x0 x1 b0 b1 w
          rcases q1 with q1 | q1
          · exact absurd q1 k.1
          · omega
        · rw [w.1]; exact Int.le_refl _
      · rw [q3 y y0 (by omega) z]
        rcases (hA x y x0 (by omega) y0 (by omega)).mp w with w | w
        · exact i4 x y x0 x1 y0 y1 w
        · exact absurd w.2 z
  · refine ⟨j1, fun x u v => ?_, fun x u v => ?_, fun x y x0 x1 y0 y1 w => ?_, j5⟩
    · rw [q2 x u v]
      rcases i2 x u v with w | w
      · exact Or.inl w
      · exact Or.inr ⟨⟨w.1.1, w.1.2.1, w.1.2.2.1, (hA _ x w.1.2.1.1 w.1.2.1.2 u v).mpr (Or.inl w.1.2.2.2)⟩, fun y y0 y1 t => w.2 y y0 y1 (by rw [← q2 y y0 y1]; exact t)⟩
    · rw [q3 x u v]
      rcases i3 x u v with w | ⟨w1, y, w2, w3⟩
      · exact Or.inl ⟨w.1, fun y y0 y1 k => w.2 y y0 y1 (by rw [← q2 y y0 y1]; exact k)⟩
      · exact Or.inr ⟨w1, y, w2, by rw [q2 y w2.1 w2.2]; exact w3⟩
    · rw [q2 y y0 (by omega)]
      rcases (hA x y x0 (by omega) y0 (by omega)).mp w with w | w
      · exact i4 x y x0 x1 y0 y1 w
      · rw [w.1, w.2]
        rcases (show H b = 6 ∨ H b ≠ 6 by omega) with k | k
        · exact absurd (Or.inl k) q1
        · exact ⟨k, Int.not_lt.mp (fun l => q1 (Or.inr l))⟩
def dnA (na no : Int) (A L : Int → Int) (n : Int) : Prop := ∀ a, 0 ≤ a → a < n → a < na → L a = 1 ∨ ∀ b, 0 ≤ b → b < no → hasZ (A a) b
/-- when nobody asks any more, the row stands: downs asking -/
theorem da_down {g A H L r : Int → Int} (n : (0 ≤ nd g ∧ nd g ≤ 6) ∧ (0 ≤ nu g ∧ nu g ≤ 6)) (I : daI (fun a b => KY g a b) (nd g) (nu g) A H L) (dn : dnA (nd g) (nu g) A L 6) (er : ∀ d, 0 ≤ d → d < 6 → (r d = 6 ∧ ∀ u, 0 ≤ u → u < 6 → H u ≠ d) ∨ ((0 ≤ r d ∧ r d < 6) ∧ H (r d) = d)) : isRw g r ∧ stn g r := by
  obtain ⟨i1, i2, i3, i4, i5⟩ := I
  have rw1 : isRw g r := fun d a b => by
    rcases er d a b with q | q
    · exact Or.inl q.1
    · rcases i2 (r d) q.1.1 q.1.2 with w | w
      · omega
      · refine Or.inr ⟨⟨by omega, by omega, by omega⟩, fun e u v z => ?_⟩
        rcases er e u v with y | y
        · omega
        · rw [z] at y; omega
  refine ⟨rw1, fun d u d0 d1 u0 u1 lv => ?_⟩
  have as : hasZ (A d) u := by
    rcases er d d0 (by omega) with q | q
    · rcases dn d d0 (by omega) d1 with w | w
      · rcases i3 d d0 (by omega) with y | ⟨y1, x, y2, y3⟩
        · omega
        · exact absurd y3 (q.2 x y2.1 y2.2)
      · exact w u u0 u1
    · rcases i2 (r d) q.1.1 q.1.2 with w | w
      · omega
      · have w4 := w.1.2.2.2
        rw [q.2] at w4
        rcases lv.1 with k | k
        · omega
        · exact i5 d (r d) u d0 d1 (by omega) w.1.1 u0 u1 w4 k
  obtain ⟨k1, k2⟩ := i4 d u d0 d1 u0 u1 as
  rcases i2 u u0 (by omega) with w | w
  · exact k1 w
  · rcases er (H u) w.1.2.1.1 w.1.2.1.2 with y | y
    · exact y.2 u u0 (by omega) rfl
    · have e := w.2 (r (H u)) y.1.1 y.1.2 y.2
      have := lv.2 (H u) w.1.2.1.1 w.1.2.1.2 e
      have k2 : KY g d u ≤ KY g (H u) u := k2
      omega
/-- ups asking -/
theorem da_up {g A H L r : Int → Int} (n : (0 ≤ nd g ∧ nd g ≤ 6) ∧ (0 ≤ nu g ∧ nu g ≤ 6)) (I : daI (fun a b => KY g b a) (nu g) (nd g) A H L) (dn : dnA (nu g) (nd g) A L 6) (er : ∀ d, 0 ≤ d → d < 6 → r d = H d) : isRw g r ∧ stn g r := by
  obtain ⟨i1, i2, i3, i4, i5⟩ := I
  have rw1 : isRw g r := fun d a b => by
    rw [er d a b]
    rcases i2 d a b with w | w
    · exact Or.inl w
    · exact Or.inr ⟨⟨w.1.1, w.1.2.1.1, w.1.2.2.1⟩, fun e u v z => w.2 e u v (by rw [← er e u v]; exact z)⟩
  refine ⟨rw1, fun d u d0 d1 u0 u1 lv => ?_⟩
  have as : hasZ (A u) d := by
    rcases dn u u0 (by omega) u1 with w | w
    · rcases i3 u u0 (by omega) with y | ⟨y1, x, y2, y3⟩
      · omega
      · have l := lv.2 x y2.1 y2.2 (by rw [er x y2.1 y2.2]; exact y3)
        rcases i2 x y2.1 y2.2 with k | k
        · omega
        · have k4 := k.1.2.2.2
          rw [y3] at k4
          exact i5 u x d u0 u1 y2.1 k.1.1 d0 d1 k4 l
    · exact w d d0 d1
  obtain ⟨k1, k2⟩ := i4 u d u0 u1 d0 d1 as
  have k2 : KY g d u ≤ KY g d (H d) := k2
  rcases lv.1 with y | y
  · rw [er d d0 (by omega)] at y; exact k1 y
  · rw [er d d0 (by omega)] at y; omega
def smA (A : Int → Int) : Int := sm6 (fun a => cardZ (A a))
theorem smA_b (A : Int → Int) : 0 ≤ smA A ∧ smA A ≤ 36 := by
  have := sm6_b (f := fun a => cardZ (A a)) (lo := 0) (hi := 6) (fun k _ _ => cardZ_b (A k))
  unfold smA; omega
theorem smA_ask {A A' : Int → Int} {a b : Int} (a0 : 0 ≤ a) (a1 : a < 6) (b0 : 0 ≤ b) (b1 : b < 6) (nb : ¬ hasZ (A a) b) (eA : A' a = orZ (A a) (shlZ 1 b)) (oA : ∀ x, 0 ≤ x → x < 6 → x ≠ a → A' x = A x) : smA A' = smA A + 1 := by
  have h := sm6_pt (f := fun a => cardZ (A a)) (f' := fun a => cardZ (A' a)) (u := a) a0 a1 (fun k u v z => by rw [oA k u v z])
  unfold smA
  rw [h, eA, card_add b0 b1 nb]; omega
theorem smA_e {A A' : Int → Int} (e : ∀ x, 0 ≤ x → x < 6 → A' x = A x) : smA A' = smA A := sm6_e (fun k u v => by rw [e k u v])
