/-! IMAGES: ops 34, 35 -/
/-- what the class has done at IMAGE -/
def imC (B : Nat) (h h1 : mH) (k : Int) (t : Nat) (σ : Sg) : Prop := bk h1 B ∧ rk h1 (B + 157) ∧ mR h1 (B + 55) k.toNat = some t ∧ (∀ k' : Int, 0 ≤ k' → k' < 3 → k' ≠ k → mR h1 (B + 55) k'.toNat = mR h (B + 55) k'.toNat) ∧ tdk h1 t ∧ (B + 188 ≤ t ∧ t + 54 ≤ mE h1) ∧ mE h ≤ mE h1 ∧ (∀ (k' : Int) (t' : Nat), 0 ≤ k' → k' < 3 → k' ≠ k → mR h (B + 55) k'.toNat = some t' → tdk h t' → t' + 54 ≤ mE h → tdk h1 t' ∧ (t' + 54 ≤ t ∨ t + 54 ≤ t')) ∧ (∀ a z, a < mE h → (a < t ∨ t + 54 ≤ a) → rI h1 a z = rI h a z) ∧ clsT h1 t σ
theorem imC_old {B : Nat} {h h1 : mH} {k : Int} {t : Nat} {σ σ' : Sg} (I : Inv B h) (hk : 0 ≤ k ∧ k < 3) (p1 : mR h (B + 55) k.toNat = some t) (p2 : tdk h t) (p3 : B + 188 ≤ t ∧ t + 54 ≤ mE h) (f : frm (fun a _ => t ≤ a ∧ a < t + 54) h h1) (C : clsT h1 t σ) : imC B h h1 k t σ := by
  obtain ⟨i1, i2, i3, -, i5, i6⟩ := I
  have eS := f.1
  refine ⟨bk_q eS i1, rk_q eS i2, by rw [eS.2.2]; exact p1, fun k' a c n => by rw [eS.2.2], lk_q eS p2, by rw [eS.1]; exact p3, by rw [eS.1]; exact Nat.le_refl _, fun k' t' a c n e1 e2 e3 => ⟨lk_q eS e2, i6 k' k t' t a c hk.1 hk.2 n e1 p1⟩, fun a z l q => frm_r f (by omega), C⟩
theorem imC_new {B : Nat} {h hc h1 : mH} {k : Int} {σ : Sg} (I : Inv B h) (hk : 0 ≤ k ∧ k < 3) (N : imN h B k hc) (f : frm (fun a _ => mE h ≤ a ∧ a < mE h + 54) hc h1) (C : clsT h1 (mE h) σ) : imC B h h1 k (mE h) σ := by
  obtain ⟨i1, i2, i3, -, i5, i6⟩ := I
  obtain ⟨n1, n2, n3, n4⟩ := N
  have eS := f.1
  have kb : bk hc B := bk_on (fun a z1 z2 => ⟨(n4 a (by omega)).1, fun j nj => (n4 a (by omega)).2.2 j (fun w => nj w.1)⟩) i1
  have kr : rk hc (B + 157) := rk_on (fun a z1 z2 => ⟨(n4 a (by omega)).1, fun j => (n4 a (by omega)).2.2 j (fun w => by omega)⟩) i2
  refine ⟨bk_q eS kb, rk_q eS kr, by rw [eS.2.2]; exact n3, fun k' a c n => ?_, lk_q eS n2, by rw [eS.1, n1]; omega, by rw [eS.1, n1]; omega, fun k' t' a c n e1 e2 e3 => ⟨lk_q eS (tdk_on (fun a z1 z2 => ⟨(n4 a (by omega)).1, fun j => (n4 a (by omega)).2.2 j (fun w => ?_)⟩) e2), by omega⟩, fun a z l q => (frm_r f (by omega)).trans (by unfold rI; rw [(n4 a l).2.1]), C⟩
  · rw [eS.2.2]; exact (n4 (B + 55) (by omega)).2.2 _ (fun w => by omega)
  · rcases i5 k' ‹_› ‹_› with ⟨p1, p2⟩ | ⟨t2, σ', p1, p2, p3, p4, p5, p6⟩
    · rw [p1] at e1; cases e1
    · rw [p1] at e1
      cases e1
      omega
theorem Inv_im {B : Nat} {h h1 h2 : mH} {k : Int} {t : Nat} {σ : Sg} (I : Inv B h) (hk : 0 ≤ k ∧ k < 3) (c : clsT h (B + 1) σ) (r : refT h (B + 157) 0 σ) (C : imC B h h1 k t σ) (f : frm (fun a i => (a = (B + 157) ∧ i = 0) ∨ ((a = (B + 157) + 1 ∧ 600 * (k + 1) ≤ (i : Int) ∧ (i : Int) < 600 * (k + 1) + 600) ∨ ((B + 157) + 2 ≤ a ∧ a ≤ (B + 157) + 4 ∧ (i : Int) = (k + 1)) ∨ (a = (B + 157) + 5 ∧ 3 * (k + 1) ≤ (i : Int) ∧ (i : Int) < 3 * (k + 1) + 3) ∨ (a = (B + 157) + 6 ∧ 162 * (k + 1) ≤ (i : Int) ∧ (i : Int) < 162 * (k + 1) + 162) ∨ (a = (B + 157) + 7 ∧ 242 * (k + 1) ≤ (i : Int) ∧ (i : Int) < 242 * (k + 1) + 242) ∨ (a = (B + 157) + 8 ∧ 50 * (k + 1) ≤ (i : Int) ∧ (i : Int) < 50 * (k + 1) + 50)) ∨ (a = (B + 157) + 30 ∧ (i : Int) = k)) h1 h2) (R : refT h2 (B + 157) (k + 1) σ) (K : rI h2 (B + 157 + 30) k = 1) : Inv B h2 := by
  obtain ⟨i1, i2, i3, -, i5, i6⟩ := I
  obtain ⟨c1, c2, c3, c4, c5, c6, c7, c8, c9, c10⟩ := C
  have eS := f.1
  have rr : ∀ s σ', 0 ≤ s → s < 4 → s ≠ k + 1 → refT h (B + 157) s σ' → refT h2 (B + 157) s σ' := fun s σ' a b n H => refT_im ⟨a, b⟩ hk n f (refT_q (fun a x y z => c9 a z (by omega) (by omega)) H)
  refine ⟨bk_q eS c1, rk_q eS c2, by rw [eS.1]; omega, ⟨σ, clsT_c f (fun a i x y q => by omega) (clsT_q (fun a x y z => c9 a z (by omega) (by omega)) c), rr 0 σ (by omega) (by omega) (by omega) r⟩, fun k' a b => ?_, fun k1 k2 t1 t2 a b c d e p q => ?_⟩
  · by_cases n : k' = k
    · subst n
      exact Or.inr ⟨t, σ, by rw [eS.2.2]; exact c3, lk_q eS c5, by rw [eS.1]; exact c6, K, clsT_c f (fun a i x y q => by omega) c10, R⟩
    · rcases i5 k' a b with ⟨p1, p2⟩ | ⟨t', σ', p1, p2, p3, p4, p5, p6⟩
      · refine Or.inl ⟨by rw [eS.2.2, c4 k' a b n]; exact p1, ?_⟩
        exact (frm_r f (by omega)).trans ((c9 (B + 187) k' (by omega) (by omega)).trans p2)
      · obtain ⟨g1, g2⟩ := c8 k' t' a b n p1 p2 p3.2
        refine Or.inr ⟨t', σ', by rw [eS.2.2, c4 k' a b n]; exact p1, lk_q eS g1, by rw [eS.1]; omega, ?_, clsT_c f (fun a i x y q => by omega) (clsT_q (fun a x y z => c9 a z (by omega) (by omega)) p5), rr (k' + 1) σ' (by omega) (by omega) (by omega) p6⟩
        exact (frm_r f (by omega)).trans ((c9 (B + 187) k' (by omega) (by omega)).trans p4)
  · rw [eS.2.2] at p q
    have hit : ∀ (j : Int) (s : Nat), 0 ≤ j → j < 3 → j ≠ k → mR h1 (B + 55) j.toNat = some s → (s + 54 ≤ t ∨ t + 54 ≤ s) := fun j s a b n e => by
      rw [c4 j a b n] at e
      rcases i5 j a b with ⟨p1, p2⟩ | ⟨t', σ', p1, p2, p3, p4, p5, p6⟩
      · rw [p1] at e; cases e
      · rw [p1] at e
        rw [← Option.some.inj e]
        exact (c8 j t' a b n p1 p2 p3.2).2
    by_cases n1 : k1 = k
    · subst n1
      rw [c3] at p
      cases p
      have := hit k2 t2 c d (by omega) q
      omega
    · by_cases n2 : k2 = k
      · subst n2
        rw [c3] at q
        cases q
        exact hit k1 t1 a b (by omega) p
      · rw [c4 k1 a b n1] at p
        rw [c4 k2 c d n2] at q
        exact i6 k1 k2 t1 t2 a b c d e p q
theorem op35 {ad : mA} {B : Nat} : op_35 ad B (Inv B) := by
  intro a
  rw [← zI_toInt a]
  have ra := in_of a
  generalize a.toInt = a at *
  intro h I
  have I0 := I
  obtain ⟨i1, i2, i3, ⟨σ, c, r⟩, i5, i6⟩ := I
  refine ⟨0, 0, by omega, by omega, ?_⟩
  have no : ∀ hh, Inv B hh → (¬ (0 ≤ a ∧ a < 3) ∨ rI hh (B + 157 + 30) a = 0) → ∃ r : Int32, some (Value.int (zI (bZ False))) = some (.int r) ∧ (mS hh (B + 157)).1 = 12 ∧ mCal TB0 ad 799 M_X12_again (.ref (B + 157) :: [.int (zI a)]) hh 0 0 (fun v' h2 => v' = some (.int r) ∧ Inv B h2) := fun hh II q => ⟨_, rfl, rk_s II.2.1, zp_X12_again_no II.2.1 a ra q (fun h2 f => ⟨rfl, Inv_q (frm_m f (fun a k q => by unfold qset; omega)) II⟩)⟩
  by_cases q : 0 ≤ a ∧ a < 3
  · rcases i5 a q.1 q.2 with ⟨p1, p2⟩ | ⟨t, σ', p1, p2, p3, p4, p5, p6⟩
    · exact zp_X11_again_none i1 a ra q p1 (no h I0 (Or.inr p2))
    · refine zp_X11_again_in i1 p2 p5 a ra q p1 (by omega) (fun h1 f C => ?_)
      have i2' := rk_q f.1 i2
      have p6' := refT_c f (fun a k x y q => by omega) p6
      have p4' : rI h1 (B + 157 + 30) a = 1 := (frm_r f (by omega)).trans p4
      exact ⟨_, rfl, rk_s i2', zp_X12_again_in a ra i2' p6' q p4' (fun h2 f' R => ⟨rfl, Inv_s I0 (frm_m f (fun a k q => by unfold cset; omega)) (frm_m f' (fun a k q => by unfold rset; omega)) C R⟩)⟩
  · exact zp_X11_again_out i1 a ra q (no h I0 (Or.inl q))
theorem op34 {ad : mA} {B : Nat} : op_34 ad B (Inv B) := by
  intro a
  rw [← zI_toInt a]
  have ra := in_of a
  generalize a.toInt = a at *
  intro h I
  have I0 := I
  obtain ⟨i1, i2, i3, ⟨σ, c, r⟩, i5, i6⟩ := I
  by_cases q : 0 ≤ a ∧ a < 3
  · have yes : ∀ h1 t, imC B h h1 a t σ → ∃ r : Int32, some (Value.int (zI (bZ True))) = some (.int r) ∧ (mS h1 (B + 157)).1 = 12 ∧ mCal TB0 ad 799 M_X12_image (.ref (B + 157) :: [.int (zI a)]) h1 0 0 (fun v' h2 => v' = some (.int r) ∧ Inv B h2) := fun h1 t C => ⟨_, rfl, rk_s C.2.1, zp_X12_image_in C.2.1 (refT_q (fun a x y z => C.2.2.2.2.2.2.2.2.1 a z (by omega) (by have := C.2.2.2.2.2.1; omega)) r) a ra q (fun h2 f R K => ⟨rfl, Inv_im I0 q c r C f R K⟩)⟩
    rcases i5 a q.1 q.2 with ⟨p1, p2⟩ | ⟨t, σ', p1, p2, p3, p4, p5, p6⟩
    · exact ⟨54, 1113, by omega, by omega, zp_X11_image_new i1 c a ra q p1 i3 (fun hc h1 N f C => yes h1 _ (imC_new I0 q N f C))⟩
    · exact ⟨0, 0, by omega, by omega, zp_X11_image_old i1 p2 c a ra q p1 p3.1 (fun h1 f C => yes h1 t (imC_old (σ' := σ) I0 q p1 p2 p3 f C))⟩
  · exact ⟨0, 0, by omega, by omega, zp_X11_image_out i1 a ra q ⟨_, rfl, rk_s i2, zp_X12_image_out i2 a ra q (fun h2 f => ⟨rfl, Inv_q (frm_m f (fun a k q => by unfold qset; omega)) I0⟩)⟩⟩
