/-! ROWS: just one stands -/
/-! ROWS: who has whom, who would leave; just one row stands -/
def KY (g : Int → Int) (d u : Int) : Int := 36 * fitZ g d u - (6 * d + u)
theorem KY_ne {g : Int → Int} {d u d' u' : Int} (h : 0 ≤ d ∧ d < 6) (k : 0 ≤ u ∧ u < 6) (h' : 0 ≤ d' ∧ d' < 6) (k' : 0 ≤ u' ∧ u' < 6) (e : KY g d u = KY g d' u') : d = d' ∧ u = u' := by
  have a := fitZ_b g d u
  have b := fitZ_b g d' u'
  unfold KY at e
  omega
theorem KY_d {g : Int → Int} {d u u' : Int} (k : 0 ≤ u ∧ u < 6) (k' : 0 ≤ u' ∧ u' < 6) : KY g d u' < KY g d u ↔ (fitZ g d u' < fitZ g d u ∨ (fitZ g d u' = fitZ g d u ∧ u < u')) := by
  unfold KY; omega
theorem KY_u {g : Int → Int} {d d' u : Int} (k : 0 ≤ d ∧ d < 6) (k' : 0 ≤ d' ∧ d' < 6) : KY g d' u < KY g d u ↔ (fitZ g d' u < fitZ g d u ∨ (fitZ g d' u = fitZ g d u ∧ d < d')) := by
  unfold KY; omega
def rbs (r : Int → Int) : Prop := ∀ d, 0 ≤ d → d < 6 → 0 ≤ r d ∧ r d ≤ 6
def isRw (g r : Int → Int) : Prop := ∀ d, 0 ≤ d → d < 6 → r d = 6 ∨ ((d < nd g ∧ 0 ≤ r d ∧ r d < nu g) ∧ ∀ e, 0 ≤ e → e < 6 → r e = r d → e = d)
theorem isRw_b {g r : Int → Int} (n : nu g ≤ 6) (h : isRw g r) : rbs r := fun d a b => by
  rcases h d a b with q | q <;> omega
theorem isRw_e {g r r' : Int → Int} (h : isRw g r) (e : ∀ d, 0 ≤ d → d < 6 → r' d = r d) : isRw g r' := fun d a b => by
  rw [e d a b]
  rcases h d a b with q | q
  · exact Or.inl q
  · exact Or.inr ⟨q.1, fun x u v w => q.2 x u v (by rw [← e x u v]; exact w)⟩
def lvP (g r : Int → Int) (d u : Int) : Prop := (r d = 6 ∨ KY g d (r d) < KY g d u) ∧ ∀ e, 0 ≤ e → e < 6 → r e = u → KY g e u < KY g d u
def stn (g r : Int → Int) : Prop := ∀ d u, 0 ≤ d → d < nd g → 0 ≤ u → u < nu g → ¬ lvP g r d u
theorem stn_u {g r r' : Int → Int} (n : (0 ≤ nd g ∧ nd g ≤ 6) ∧ (0 ≤ nu g ∧ nu g ≤ 6)) (h : isRw g r) (h' : isRw g r') (s : stn g r) (s' : stn g r') : ∀ d, 0 ≤ d → d < 6 → r d = r' d := by
  have half : ∀ r r' : Int → Int, isRw g r → isRw g r' → stn g r' → ∀ d u, 0 ≤ d → d < 6 → 0 ≤ u → u < 6 → r d = u → r' d ≠ u → (∀ e x, 0 ≤ e → e < 6 → 0 ≤ x → x < 6 → r' e = x → r e ≠ x → KY g e x < KY g d u) → False := by
    intro r r' h h' s' d u d0 d1 u0 u1 e1 e2 mx
    have hd := (h d d0 d1).resolve_left (by omega)
    refine s' d u d0 hd.1.1 u0 (by omega) ⟨?_, fun e a b q => ?_⟩
    · rcases h' d d0 d1 with q | q
      · exact Or.inl q
      · exact Or.inr (mx d (r' d) d0 d1 (by omega) (by omega) rfl (fun z => e2 (by omega)))
    · have ne : e ≠ d := fun z => e2 (by rw [← z]; exact q)
      exact mx e u a b u0 u1 q (fun z => ne (hd.2 e a b (by omega)))
  have f := fmP_f (fun k => (r (k / 6) = k % 6 ∧ r' (k / 6) ≠ k % 6) ∨ (r' (k / 6) = k % 6 ∧ r (k / 6) ≠ k % 6)) (fun k => KY g (k / 6) (k % 6)) 36
  have dif : ∀ e x : Int, 0 ≤ e → e < 6 → 0 ≤ x → x < 6 → (6 * e + x) / 6 = e ∧ (6 * e + x) % 6 = x := fun e x _ _ a b => lon_i a b
  rcases f with ⟨_, f2⟩ | ⟨f1, f2, f3⟩
  · intro d d0 d1
    have z : ∀ x, 0 ≤ x → x < 6 → (r d = x ↔ r' d = x) := fun x x0 x1 => by
      have q := f2 (6 * d + x) (by omega) (by show 6 * d + x < 36; omega)
      dsimp only at q
      rw [(dif d x d0 d1 x0 x1).1, (dif d x d0 d1 x0 x1).2] at q
      constructor
      · intro w; exact Decidable.byContradiction (fun y => q (Or.inl ⟨w, y⟩))
      · intro w; exact Decidable.byContradiction (fun y => q (Or.inr ⟨w, y⟩))
    rcases h d d0 d1 with q | q
    · rcases h' d d0 d1 with w | w
      · rw [q, w]
      · have := (z (r' d) (by omega) (by omega)).mpr rfl
        omega
    · exact ((z (r d) (by omega) (by omega)).mp rfl).symm
  · exfalso
    have mx : ∀ e x, 0 ≤ e → e < 6 → 0 ≤ x → x < 6 → ((r e = x ∧ r' e ≠ x) ∨ (r' e = x ∧ r e ≠ x)) → KY g e x ≤ KY g (fmP (fun k => (r (k / 6) = k % 6 ∧ r' (k / 6) ≠ k % 6) ∨ (r' (k / 6) = k % 6 ∧ r (k / 6) ≠ k % 6)) (fun k => KY g (k / 6) (k % 6)) 36 / 6) (fmP (fun k => (r (k / 6) = k % 6 ∧ r' (k / 6) ≠ k % 6) ∨ (r' (k / 6) = k % 6 ∧ r (k / 6) ≠ k % 6)) (fun k => KY g (k / 6) (k % 6)) 36 % 6) := fun e x e0 e1 x0 x1 w => by
      have q := f3 (6 * e + x) (by omega) (by show 6 * e + x < 36; omega) (by
        show (r ((6 * e + x) / 6) = (6 * e + x) % 6 ∧ r' ((6 * e + x) / 6) ≠ (6 * e + x) % 6) ∨ (r' ((6 * e + x) / 6) = (6 * e + x) % 6 ∧ r ((6 * e + x) / 6) ≠ (6 * e + x) % 6)
        rw [(dif e x e0 e1 x0 x1).1, (dif e x e0 e1 x0 x1).2]; exact w)
      dsimp only at q
      rw [(dif e x e0 e1 x0 x1).1, (dif e x e0 e1 x0 x1).2] at q
      omega
    have f1 : 0 ≤ fmP (fun k => (r (k / 6) = k % 6 ∧ r' (k / 6) ≠ k % 6) ∨ (r' (k / 6) = k % 6 ∧ r (k / 6) ≠ k % 6)) (fun k => KY g (k / 6) (k % 6)) 36 ∧ fmP (fun k => (r (k / 6) = k % 6 ∧ r' (k / 6) ≠ k % 6) ∨ (r' (k / 6) = k % 6 ∧ r (k / 6) ≠ k % 6)) (fun k => KY g (k / 6) (k % 6)) 36 < 36 := f1
    clear f3
    revert f1 f2 mx
    generalize fmP (fun k => (r (k / 6) = k % 6 ∧ r' (k / 6) ≠ k % 6) ∨ (r' (k / 6) = k % 6 ∧ r (k / 6) ≠ k % 6)) (fun k => KY g (k / 6) (k % 6)) 36 = v
    intro f2 mx f1
    have lt : ∀ e x, 0 ≤ e → e < 6 → 0 ≤ x → x < 6 → ((r e = x ∧ r' e ≠ x) ∨ (r' e = x ∧ r e ≠ x)) → ¬ (e = v / 6 ∧ x = v % 6) → KY g e x < KY g (v / 6) (v % 6) := fun e x e0 e1 x0 x1 w ne => by
      have a := mx e x e0 e1 x0 x1 w
      rcases (show KY g e x < KY g (v / 6) (v % 6) ∨ KY g e x = KY g (v / 6) (v % 6) by omega) with y | y
      · exact y
      · exact absurd (KY_ne ⟨e0, e1⟩ ⟨x0, x1⟩ (by omega) (by omega) y) ne
    rcases f2 with f2 | f2
    · exact half r r' h h' s' (v / 6) (v % 6) (by omega) (by omega) (by omega) (by omega) f2.1 f2.2 (fun e x e0 e1 x0 x1 w1 w2 => lt e x e0 e1 x0 x1 (Or.inr ⟨w1, w2⟩) (fun z => f2.2 (by rw [← z.1, ← z.2]; exact w1)))
    · exact half r' r h' h s (v / 6) (v % 6) (by omega) (by omega) (by omega) (by omega) f2.1 f2.2 (fun e x e0 e1 x0 x1 w1 w2 => lt e x e0 e1 x0 x1 (Or.inl ⟨w1, w2⟩) (fun z => f2.2 (by rw [← z.1, ← z.2]; exact w1)))
/-- a row that stands is full -/
theorem stn_full {g r : Int → Int} (s : stn g r) {d u : Int} (d0 : 0 ≤ d) (d1 : d < nd g) (u0 : 0 ≤ u) (u1 : u < nu g) (fd : r d = 6) (fu : ∀ e, 0 ≤ e → e < 6 → r e ≠ u) : False := s d u d0 d1 u0 u1 ⟨Or.inl fd, fun e a b q => absurd q (fu e a b)⟩
/-- whose an up is -/
def own (r : Int → Int) (u x : Int) : Prop := (x = 6 ∧ ∀ d, 0 ≤ d → d < 6 → r d ≠ u) ∨ ((0 ≤ x ∧ x < 6) ∧ r x = u)
def tlR (g : Int → Int) (d : Int) : Int := if upv g d = -1 then 6 else upv g d
theorem tlR_b {g : Int → Int} (w : wfF g) (d : Int) : (tlR g d = 6 ∧ upv g d = -1) ∨ ((0 ≤ d ∧ d < nd g) ∧ tlR g d = upv g d ∧ tlR g d = dm g d ∧ 0 ≤ tlR g d ∧ tlR g d < nu g) := by
  unfold tlR
  rcases upv_s w d with q | q
  · rw [if_pos q]; exact Or.inl ⟨rfl, q⟩
  · rw [if_neg (by omega)]; exact Or.inr (by omega)
theorem tlR_w {g : Int → Int} (w : wfF g) : isRw g (tlR g) := fun d a b => by
  have wn := w.1.2.1
  rcases tlR_b w d with q | q
  · exact Or.inl q.1
  · refine Or.inr ⟨⟨q.1.2, by omega, by omega⟩, fun e u v z => ?_⟩
    rcases tlR_b w e with y | y
    · omega
    · have m1 := wM_d w.2.1 a b
      have m2 := wM_d w.2.1 u v
      have e1 : dm g e = dm g d := by omega
      rcases m1 with m1 | m1
      · omega
      · rcases m2 with m2 | m2
        · omega
        · rw [e1] at m2
          omega
/-- how many couples would leave, how many have changed, who is in it, FITS -/
noncomputable def lvB (g r : Int → Int) (d u : Int) : Int := @bZ (lvP g r d u) (Classical.propDecidable _)
theorem lvB_1 {g r : Int → Int} {d u : Int} (h : lvP g r d u) : lvB g r d u = 1 := by unfold lvB; exact @bZ_1 _ (Classical.propDecidable _) h
theorem lvB_0 {g r : Int → Int} {d u : Int} (h : ¬ lvP g r d u) : lvB g r d u = 0 := by unfold lvB; exact @bZ_0 _ (Classical.propDecidable _) h
theorem lvB_b (g r : Int → Int) (d u : Int) : lvB g r d u = 0 ∨ lvB g r d u = 1 := by
  by_cases q : lvP g r d u
  · exact Or.inr (lvB_1 q)
  · exact Or.inl (lvB_0 q)
noncomputable def lvN (g r : Int → Int) : Int := sumZ (fun d => sumZ (fun u => lvB g r d u) (nu g).toNat) (nd g).toNat
theorem lvP_e {g r r' : Int → Int} {d u : Int} (d0 : 0 ≤ d) (d1 : d < 6) (e : ∀ d, 0 ≤ d → d < 6 → r' d = r d) (h : lvP g r d u) : lvP g r' d u := by
  unfold lvP
  rw [e d d0 d1]
  exact ⟨h.1, fun x a b q => h.2 x a b (by rw [← e x a b]; exact q)⟩
theorem lvN_e {g r r' : Int → Int} (n : nd g ≤ 6) (e : ∀ d, 0 ≤ d → d < 6 → r' d = r d) : lvN g r' = lvN g r := sumZ_e (fun d a b => sumZ_e (fun u _ _ => by
  by_cases q : lvP g r d u
  · rw [lvB_1 q, lvB_1 (lvP_e a (by omega) e q)]
  · rw [lvB_0 q, lvB_0 (fun z => q (lvP_e a (by omega) (fun x a b => (e x a b).symm) z))]))
