/-! TEXT: the class's contents line by line -/
/-! TEXT: the class's contents line by line -/
theorem rwF_a0 {h h1 : mH} {f : Nat} {G : Int → Int} {l s e d : Int} (w : wfR G) (H : rwF h f G) (fr : frm (fun a k => (a = f + 1 ∧ k = 5) ∨ ((f + 1 + 1 ≤ a ∧ a ≤ f + 1 + 4) ∧ k = (nd G).toNat)) h h1) (A : (nd G < 6 → adB h1 (f + 1) (nd G) l s e d) ∧ (¬ nd G < 6 → h1 = h)) : rwF h1 f (adG G 0 l s e d) := by
  by_cases q : G 0 < 6
  · obtain ⟨a0, a1, a2, a3, a4⟩ := A.1 q
    have en : nd G = G 0 := rfl
    have eu : nu G = G 1 := rfl
    have ec : nc G = G 2 := rfl
    have w1 := w.1
    have w2 := w.2.1
    have w3 := w.2.2.1
    have k1 : ∀ (a : Nat) (z : Int), ¬ ((a = f + 1 ∧ z.toNat = 5) ∨ ((f + 1 + 1 ≤ a ∧ a ≤ f + 1 + 4) ∧ z.toNat = (nd G).toNat)) → rI h1 a z = rI h a z := fun a z n => frm_r fr n
    obtain ⟨⟨z1, z2, z3⟩, b1, b2, b3, b4⟩ := H
    obtain ⟨n1, n2, n3⟩ := ag0_n (G := G) (a := l) (c := s) (e := e) (d := d) q (by omega)
    obtain ⟨v1, v2, v3, v4⟩ := ag_4 (G := G) (s := 0) (a := l) (c := s) (e := e) (d := d) q (by omega) (by omega)
    rw [if_pos rfl] at n1
    rw [if_neg (by omega)] at n2
    refine ⟨⟨?_, ?_, ?_⟩, fun i x y => ?_, fun i x y => ?_, fun i x y => ?_, fun i x y => ?_⟩
    · rw [n1]; exact a0
    · rw [n2]; rw [k1 _ _ (by omega)]; exact z2
    · rw [n3, k1 _ _ (by omega)]; exact z3
    · rw [n1] at y
      by_cases u : i = nd G
      · rw [u]
        refine ⟨a1.trans ?_, a2.trans ?_, a3.trans ?_, a4.trans ?_⟩
        · show l = adG G 0 l s e d (3 + nd G)
          rw [show 3 + nd G = 30 * 0 + 3 + G 0 by omega]; exact v1.symm
        · show s = adG G 0 l s e d (9 + nd G)
          rw [show 9 + nd G = 30 * 0 + 9 + G 0 by omega]; exact v2.symm
        · show e = adG G 0 l s e d (15 + nd G)
          rw [show 15 + nd G = 30 * 0 + 15 + G 0 by omega]; exact v3.symm
        · show d = adG G 0 l s e d (21 + nd G)
          rw [show 21 + nd G = 30 * 0 + 21 + G 0 by omega]; exact v4.symm
      · obtain ⟨p1, p2, p3, p4⟩ := b1 i x (by omega)
        rw [k1 _ _ (by omega), k1 _ _ (by omega), k1 _ _ (by omega), k1 _ _ (by omega)]
        exact ⟨p1.trans (show dl (adG G 0 l s e d) i = dl G i from ag_o q (by omega)).symm, p2.trans (show ds (adG G 0 l s e d) i = ds G i from ag_o q (by omega)).symm, p3.trans (show de (adG G 0 l s e d) i = de G i from ag_o q (by omega)).symm, p4.trans (show dh (adG G 0 l s e d) i = dh G i from ag_o q (by omega)).symm⟩
    · rw [n2] at y
      obtain ⟨p1, p2, p3, p4⟩ := b2 i x y
      rw [k1 _ _ (by omega), k1 _ _ (by omega), k1 _ _ (by omega), k1 _ _ (by omega)]
      exact ⟨p1.trans (show ul (adG G 0 l s e d) i = ul G i from ag_o q (by omega)).symm, p2.trans (show us (adG G 0 l s e d) i = us G i from ag_o q (by omega)).symm, p3.trans (show ue (adG G 0 l s e d) i = ue G i from ag_o q (by omega)).symm, p4.trans (show uh (adG G 0 l s e d) i = uh G i from ag_o q (by omega)).symm⟩
    · obtain ⟨p1, p2⟩ := b3 i x y
      rw [k1 _ _ (by omega), k1 _ _ (by omega)]
      exact ⟨p1.trans (show dm (adG G 0 l s e d) i = dm G i from ag_o q (by omega)).symm, p2.trans (show um (adG G 0 l s e d) i = um G i from ag_o q (by omega)).symm⟩
    · rw [n3] at y
      obtain ⟨p1, p2, p3⟩ := b4 i x y
      rw [k1 _ _ (by omega), k1 _ _ (by omega), k1 _ _ (by omega)]
      exact ⟨p1.trans (show ha (adG G 0 l s e d) i = ha G i from ag_o q (by omega)).symm, p2.trans (show pr (adG G 0 l s e d) i = pr G i from ag_o q (by omega)).symm, p3.trans (show dy (adG G 0 l s e d) i = dy G i from ag_o q (by omega)).symm⟩
  · rw [A.2 q, ag_f q]; exact H
theorem wfR_a0 {G : Int → Int} {l s e d : Int} (w : wfR G) : wfR (adG G 0 l s e d) := by
  by_cases q : G 0 < 6
  · have en : nd G = G 0 := rfl
    have eu : nu G = G 1 := rfl
    have w1 := w.1
    have w2 := w.2.1
    have w3 := w.2.2.1
    obtain ⟨n1, n2, n3⟩ := ag0_n (G := G) (a := l) (c := s) (e := e) (d := d) q (by omega)
    rw [if_pos rfl] at n1
    rw [if_neg (by omega)] at n2
    refine ⟨by omega, by omega, by omega, fun x a c => ?_, fun x a c => ?_⟩
    · rw [show dm (adG G 0 l s e d) x = dm G x from ag_o q (by omega)]
      rcases w.2.2.2.1 x a c with z | z
      · exact Or.inl z
      · exact Or.inr ⟨z.1, (show um (adG G 0 l s e d) (dm G x) = um G (dm G x) from ag_o q (by omega)).trans z.2⟩
    · rw [show um (adG G 0 l s e d) x = um G x from ag_o q (by omega)]
      rcases w.2.2.2.2 x a c with z | z
      · exact Or.inl z
      · exact Or.inr ⟨z.1, (show dm (adG G 0 l s e d) (um G x) = dm G (um G x) from ag_o q (by omega)).trans z.2⟩
  · rw [ag_f q]; exact w
theorem rwF_a1 {h h1 : mH} {f : Nat} {G : Int → Int} {l s e d : Int} (w : wfR G) (H : rwF h f G) (fr : frm (fun a k => (a = f + 7 ∧ k = 5) ∨ ((f + 7 + 1 ≤ a ∧ a ≤ f + 7 + 4) ∧ k = (nu G).toNat)) h h1) (A : (nu G < 6 → adB h1 (f + 7) (nu G) l s e d) ∧ (¬ nu G < 6 → h1 = h)) : rwF h1 f (adG G 1 l s e d) := by
  by_cases q : G 1 < 6
  · obtain ⟨a0, a1, a2, a3, a4⟩ := A.1 q
    have en : nd G = G 0 := rfl
    have eu : nu G = G 1 := rfl
    have ec : nc G = G 2 := rfl
    have w1 := w.1
    have w2 := w.2.1
    have w3 := w.2.2.1
    have k1 : ∀ (a : Nat) (z : Int), ¬ ((a = f + 7 ∧ z.toNat = 5) ∨ ((f + 7 + 1 ≤ a ∧ a ≤ f + 7 + 4) ∧ z.toNat = (nu G).toNat)) → rI h1 a z = rI h a z := fun a z n => frm_r fr n
    obtain ⟨⟨z1, z2, z3⟩, b1, b2, b3, b4⟩ := H
    obtain ⟨n1, n2, n3⟩ := ag1_n (G := G) (a := l) (c := s) (e := e) (d := d) q (by omega)
    obtain ⟨v1, v2, v3, v4⟩ := ag_4 (G := G) (s := 1) (a := l) (c := s) (e := e) (d := d) q (by omega) (by omega)
    rw [if_neg (by omega)] at n1
    rw [if_pos rfl] at n2
    refine ⟨⟨?_, ?_, ?_⟩, fun i x y => ?_, fun i x y => ?_, fun i x y => ?_, fun i x y => ?_⟩
    · rw [n1]; rw [k1 _ _ (by omega)]; exact z1
    · rw [n2]; exact a0
    · rw [n3, k1 _ _ (by omega)]; exact z3
    · rw [n1] at y
      obtain ⟨p1, p2, p3, p4⟩ := b1 i x y
      rw [k1 _ _ (by omega), k1 _ _ (by omega), k1 _ _ (by omega), k1 _ _ (by omega)]
      exact ⟨p1.trans (show dl (adG G 1 l s e d) i = dl G i from ag_o q (by omega)).symm, p2.trans (show ds (adG G 1 l s e d) i = ds G i from ag_o q (by omega)).symm, p3.trans (show de (adG G 1 l s e d) i = de G i from ag_o q (by omega)).symm, p4.trans (show dh (adG G 1 l s e d) i = dh G i from ag_o q (by omega)).symm⟩
    · rw [n2] at y
      by_cases u : i = nu G
      · rw [u]
        refine ⟨a1.trans ?_, a2.trans ?_, a3.trans ?_, a4.trans ?_⟩
        · show l = adG G 1 l s e d (33 + nu G)
          rw [show 33 + nu G = 30 * 1 + 3 + G 1 by omega]; exact v1.symm
        · show s = adG G 1 l s e d (39 + nu G)
          rw [show 39 + nu G = 30 * 1 + 9 + G 1 by omega]; exact v2.symm
        · show e = adG G 1 l s e d (45 + nu G)
          rw [show 45 + nu G = 30 * 1 + 15 + G 1 by omega]; exact v3.symm
        · show d = adG G 1 l s e d (51 + nu G)
          rw [show 51 + nu G = 30 * 1 + 21 + G 1 by omega]; exact v4.symm
      · obtain ⟨p1, p2, p3, p4⟩ := b2 i x (by omega)
        rw [k1 _ _ (by omega), k1 _ _ (by omega), k1 _ _ (by omega), k1 _ _ (by omega)]
        exact ⟨p1.trans (show ul (adG G 1 l s e d) i = ul G i from ag_o q (by omega)).symm, p2.trans (show us (adG G 1 l s e d) i = us G i from ag_o q (by omega)).symm, p3.trans (show ue (adG G 1 l s e d) i = ue G i from ag_o q (by omega)).symm, p4.trans (show uh (adG G 1 l s e d) i = uh G i from ag_o q (by omega)).symm⟩
    · obtain ⟨p1, p2⟩ := b3 i x y
      rw [k1 _ _ (by omega), k1 _ _ (by omega)]
      exact ⟨p1.trans (show dm (adG G 1 l s e d) i = dm G i from ag_o q (by omega)).symm, p2.trans (show um (adG G 1 l s e d) i = um G i from ag_o q (by omega)).symm⟩
    · rw [n3] at y
      obtain ⟨p1, p2, p3⟩ := b4 i x y
      rw [k1 _ _ (by omega), k1 _ _ (by omega), k1 _ _ (by omega)]
      exact ⟨p1.trans (show ha (adG G 1 l s e d) i = ha G i from ag_o q (by omega)).symm, p2.trans (show pr (adG G 1 l s e d) i = pr G i from ag_o q (by omega)).symm, p3.trans (show dy (adG G 1 l s e d) i = dy G i from ag_o q (by omega)).symm⟩
  · rw [A.2 q, ag_f q]; exact H
theorem wfR_a1 {G : Int → Int} {l s e d : Int} (w : wfR G) : wfR (adG G 1 l s e d) := by
  by_cases q : G 1 < 6
  · have en : nd G = G 0 := rfl
    have eu : nu G = G 1 := rfl
    have w1 := w.1
    have w2 := w.2.1
    have w3 := w.2.2.1
    obtain ⟨n1, n2, n3⟩ := ag1_n (G := G) (a := l) (c := s) (e := e) (d := d) q (by omega)
    rw [if_neg (by omega)] at n1
    rw [if_pos rfl] at n2
    refine ⟨by omega, by omega, by omega, fun x a c => ?_, fun x a c => ?_⟩
    · rw [show dm (adG G 1 l s e d) x = dm G x from ag_o q (by omega)]
      rcases w.2.2.2.1 x a c with z | z
      · exact Or.inl z
      · exact Or.inr ⟨z.1, (show um (adG G 1 l s e d) (dm G x) = um G (dm G x) from ag_o q (by omega)).trans z.2⟩
    · rw [show um (adG G 1 l s e d) x = um G x from ag_o q (by omega)]
      rcases w.2.2.2.2 x a c with z | z
      · exact Or.inl z
      · exact Or.inr ⟨z.1, (show dm (adG G 1 l s e d) (um G x) = dm G (um G x) from ag_o q (by omega)).trans z.2⟩
  · rw [ag_f q]; exact w
theorem rwF_cl {h h1 : mH} {f : Nat} {G : Int → Int} {l s e : Int} (w : wfR G) (H : rwF h f G) (fr : frm (fun a k => (a = f ∧ k = 5) ∨ ((f + 13 ≤ a ∧ a ≤ f + 15) ∧ k = (nc G).toNat)) h h1) (A : (nc G < 6 → adC h1 f (nc G) l s e) ∧ (¬ nc G < 6 → h1 = h)) : rwF h1 f (clG G l s e) := by
  by_cases q : G 2 < 6
  · obtain ⟨a0, a1, a2, a3⟩ := A.1 q
    have en : nd G = G 0 := rfl
    have eu : nu G = G 1 := rfl
    have ec : nc G = G 2 := rfl
    have w1 := w.1
    have w2 := w.2.1
    have w3 := w.2.2.1
    have k1 : ∀ (a : Nat) (z : Int), ¬ ((a = f ∧ z.toNat = 5) ∨ ((f + 13 ≤ a ∧ a ≤ f + 15) ∧ z.toNat = (nc G).toNat)) → rI h1 a z = rI h a z := fun a z n => frm_r fr n
    obtain ⟨⟨z1, z2, z3⟩, b1, b2, b3, b4⟩ := H
    have n1 : nd (clG G l s e) = nd G := cg_o q (by omega)
    have n2 : nu (clG G l s e) = nu G := cg_o q (by omega)
    obtain ⟨n3, v1, v2, v3⟩ := cg_3 (G := G) (a := l) (c := s) (e := e) q (by omega)
    have n3 : nc (clG G l s e) = nc G + 1 := n3
    refine ⟨⟨?_, ?_, ?_⟩, fun i x y => ?_, fun i x y => ?_, fun i x y => ?_, fun i x y => ?_⟩
    · rw [n1, k1 _ _ (by omega)]; exact z1
    · rw [n2, k1 _ _ (by omega)]; exact z2
    · rw [n3]; exact a0
    · rw [n1] at y
      obtain ⟨p1, p2, p3, p4⟩ := b1 i x y
      rw [k1 _ _ (by omega), k1 _ _ (by omega), k1 _ _ (by omega), k1 _ _ (by omega)]
      exact ⟨p1.trans (show dl (clG G l s e) i = dl G i from cg_o q (by omega)).symm, p2.trans (show ds (clG G l s e) i = ds G i from cg_o q (by omega)).symm, p3.trans (show de (clG G l s e) i = de G i from cg_o q (by omega)).symm, p4.trans (show dh (clG G l s e) i = dh G i from cg_o q (by omega)).symm⟩
    · rw [n2] at y
      obtain ⟨p1, p2, p3, p4⟩ := b2 i x y
      rw [k1 _ _ (by omega), k1 _ _ (by omega), k1 _ _ (by omega), k1 _ _ (by omega)]
      exact ⟨p1.trans (show ul (clG G l s e) i = ul G i from cg_o q (by omega)).symm, p2.trans (show us (clG G l s e) i = us G i from cg_o q (by omega)).symm, p3.trans (show ue (clG G l s e) i = ue G i from cg_o q (by omega)).symm, p4.trans (show uh (clG G l s e) i = uh G i from cg_o q (by omega)).symm⟩
    · obtain ⟨p1, p2⟩ := b3 i x y
      rw [k1 _ _ (by omega), k1 _ _ (by omega)]
      exact ⟨p1.trans (show dm (clG G l s e) i = dm G i from cg_o q (by omega)).symm, p2.trans (show um (clG G l s e) i = um G i from cg_o q (by omega)).symm⟩
    · rw [n3] at y
      by_cases u : i = nc G
      · rw [u]
        exact ⟨a1.trans v1.symm, a2.trans v2.symm, a3.trans v3.symm⟩
      · obtain ⟨p1, p2, p3⟩ := b4 i x (by omega)
        rw [k1 _ _ (by omega), k1 _ _ (by omega), k1 _ _ (by omega)]
        exact ⟨p1.trans (show ha (clG G l s e) i = ha G i from cg_o q (by omega)).symm, p2.trans (show pr (clG G l s e) i = pr G i from cg_o q (by omega)).symm, p3.trans (show dy (clG G l s e) i = dy G i from cg_o q (by omega)).symm⟩
  · rw [A.2 q, cg_f q]; exact H
theorem wfR_cl {G : Int → Int} {l s e : Int} (w : wfR G) : wfR (clG G l s e) := by
  by_cases q : G 2 < 6
  · have ec : nc G = G 2 := rfl
    have w3 := w.2.2.1
    have n1 : nd (clG G l s e) = nd G := cg_o q (by omega)
    have n2 : nu (clG G l s e) = nu G := cg_o q (by omega)
    have n3 : nc (clG G l s e) = nc G + 1 := (cg_3 (G := G) (a := l) (c := s) (e := e) q (by omega)).1
    refine ⟨by rw [n1]; exact w.1, by rw [n2]; exact w.2.1, by omega, fun x a c => ?_, fun x a c => ?_⟩
    · rw [show dm (clG G l s e) x = dm G x from cg_o q (by omega)]
      rcases w.2.2.2.1 x a c with z | z
      · exact Or.inl z
      · exact Or.inr ⟨z.1, (show um (clG G l s e) (dm G x) = um G (dm G x) from cg_o q (by omega)).trans z.2⟩
    · rw [show um (clG G l s e) x = um G x from cg_o q (by omega)]
      rcases w.2.2.2.2 x a c with z | z
      · exact Or.inl z
      · exact Or.inr ⟨z.1, (show dm (clG G l s e) (um G x) = dm G (um G x) from cg_o q (by omega)).trans z.2⟩
  · rw [cg_f q]; exact w
theorem rwY_a {h h1 : mH} {f : Nat} {Y : Int → Int} {mx l s e : Int} (y0 : 0 ≤ Y 0) (H : rwY h f Y) (fr : frm (fun a k => (a = f ∧ k = 3) ∨ ((f + 1 ≤ a ∧ a ≤ f + 3) ∧ k = (Y 0).toNat)) h h1) (A : (Y 0 < mx → adD h1 f (Y 0) l s e) ∧ (¬ Y 0 < mx → h1 = h)) : rwY h1 f (adY mx Y l s e) := by
  by_cases q : Y 0 < mx
  · obtain ⟨a0, a1, a2, a3⟩ := A.1 q
    have k1 : ∀ (a : Nat) (z : Int), ¬ ((a = f ∧ z.toNat = 3) ∨ ((f + 1 ≤ a ∧ a ≤ f + 3) ∧ z.toNat = (Y 0).toNat)) → rI h1 a z = rI h a z := fun a z n => frm_r fr n
    obtain ⟨n3, v1, v2, v3⟩ := ay_3 (mx := mx) (Y := Y) (a := l) (c := s) (e := e) q y0
    refine ⟨by rw [n3]; exact a0, fun i x y => ?_⟩
    rw [n3] at y
    by_cases u : i = Y 0
    · rw [u]
      exact ⟨a1.trans v1.symm, a2.trans v2.symm, a3.trans v3.symm⟩
    · obtain ⟨p1, p2, p3⟩ := H.2 i x (by omega)
      rw [k1 _ _ (by omega), k1 _ _ (by omega), k1 _ _ (by omega), ay_o q (by omega), ay_o q (by omega), ay_o q (by omega)]
      exact ⟨p1, p2, p3⟩
  · rw [A.2 q, ay_f q]; exact H
theorem jn_d {G : Int → Int} {a c j u1 : Int} (s : syM G) (a0 : 0 ≤ a ∧ a < 6) (c0 : 0 ≤ c ∧ c < 6) (j0 : 0 ≤ j ∧ j < 6) (e : u1 = if c = dm G a then -1 else um G c) (n : j ≠ a) : (if j = u1 then -1 else dm G j) = (if dm G j = c then -1 else dm G j) := by
  have sa := s.1 a a0.1 a0.2
  have sj := s.1 j j0.1 j0.2
  have sc := s.2 c c0.1 c0.2
  by_cases w : dm G j = c
  · rw [if_pos w]
    have x1 : um G c = j := by
      rcases sj with z | z
      · omega
      · rw [w] at z; exact z.2
    have x2 : c ≠ dm G a := fun z => by
      rcases sa with y | y
      · omega
      · rw [← z] at y; omega
    rw [if_neg x2] at e
    rw [if_pos (by omega)]
  · rw [if_neg w, if_neg (fun z => ?_)]
    by_cases x2 : c = dm G a
    · rw [if_pos x2] at e; omega
    · rw [if_neg x2] at e
      rcases sc with y | y
      · omega
      · rw [← e, ← z] at y; exact w y.2
theorem jn_u {G : Int → Int} {a j : Int} (s : syM G) (a0 : 0 ≤ a ∧ a < 6) (j0 : 0 ≤ j ∧ j < 6) : (if j = dm G a then -1 else um G j) = (if um G j = a then -1 else um G j) := by
  have sa := s.1 a a0.1 a0.2
  have sj := s.2 j j0.1 j0.2
  by_cases w : um G j = a
  · rw [if_pos w, if_pos]
    rcases sj with z | z
    · omega
    · rw [w] at z; exact z.2.symm
  · rw [if_neg w, if_neg (fun z => ?_)]
    rcases sa with y | y
    · omega
    · rw [← z] at y; exact w y.2
theorem rwF_jn {h h1 h2 h4 : mH} {f : Nat} {G : Int → Int} {a c : Int} (w : wfR G) (s : syM G) (a0 : 0 ≤ a ∧ a < 6) (c0 : 0 ≤ c ∧ c < 6) (H : rwF h f G) (A1 : ∀ j : Int, 0 ≤ j → j < 6 → rI h1 (f + 1 + 5) j = if j = a then -1 else rI h (f + 1 + 5) j) (B1 : ∀ j : Int, 0 ≤ j → j < 6 → rI h1 (f + 7 + 5) j = if j = rI h (f + 1 + 5) a then -1 else rI h (f + 7 + 5) j) (A2 : ∀ j : Int, 0 ≤ j → j < 6 → rI h2 (f + 7 + 5) j = if j = c then -1 else rI h1 (f + 7 + 5) j) (B2 : ∀ j : Int, 0 ≤ j → j < 6 → rI h2 (f + 1 + 5) j = if j = rI h1 (f + 7 + 5) c then -1 else rI h1 (f + 1 + 5) j) (E3 : ∀ j : Int, 0 ≤ j → j < 6 → rI h4 (f + 6) j = if j = a then c else rI h2 (f + 6) j) (E4 : ∀ j : Int, 0 ≤ j → j < 6 → rI h4 (f + 12) j = if j = c then a else rI h2 (f + 12) j) (K : ∀ x, x ≠ f + 6 → x ≠ f + 12 → ∀ z : Int, rI h4 x z = rI h x z) : rwF h4 f (rivG G a c) := by
  obtain ⟨⟨z1, z2, z3⟩, b1, b2, b3, b4⟩ := H
  have n1 : nd (rivG G a c) = nd G := riv_o (by omega)
  have n2 : nu (rivG G a c) = nu G := riv_o (by omega)
  have n3 : nc (rivG G a c) = nc G := riv_o (by omega)
  refine ⟨⟨?_, ?_, ?_⟩, fun i x y => ?_, fun i x y => ?_, fun i x y => ⟨?_, ?_⟩, fun i x y => ?_⟩
  · rw [n1, K _ (by omega) (by omega)]; exact z1
  · rw [n2, K _ (by omega) (by omega)]; exact z2
  · rw [n3, K _ (by omega) (by omega)]; exact z3
  · rw [n1] at y
    have y6 := w.1
    obtain ⟨p1, p2, p3, p4⟩ := b1 i x y
    rw [K _ (by omega) (by omega), K _ (by omega) (by omega), K _ (by omega) (by omega), K _ (by omega) (by omega)]
    exact ⟨p1.trans (show dl (rivG G a c) i = dl G i from riv_o (by omega)).symm, p2.trans (show ds (rivG G a c) i = ds G i from riv_o (by omega)).symm, p3.trans (show de (rivG G a c) i = de G i from riv_o (by omega)).symm, p4.trans (show dh (rivG G a c) i = dh G i from riv_o (by omega)).symm⟩
  · rw [n2] at y
    have y6 := w.2.1
    obtain ⟨p1, p2, p3, p4⟩ := b2 i x y
    rw [K _ (by omega) (by omega), K _ (by omega) (by omega), K _ (by omega) (by omega), K _ (by omega) (by omega)]
    exact ⟨p1.trans (show ul (rivG G a c) i = ul G i from riv_o (by omega)).symm, p2.trans (show us (rivG G a c) i = us G i from riv_o (by omega)).symm, p3.trans (show ue (rivG G a c) i = ue G i from riv_o (by omega)).symm, p4.trans (show uh (rivG G a c) i = uh G i from riv_o (by omega)).symm⟩
  · rw [riv_dm x y, E3 i x y]
    by_cases q : i = a
    · rw [if_pos q, if_pos q]
    · rw [if_neg q, if_neg q]
      have u := B2 i x y
      rw [A1 i x y, if_neg q, B1 c c0.1 c0.2] at u
      have da : rI h (f + 1 + 5) a = dm G a := (b3 a a0.1 a0.2).1
      have di : rI h (f + 1 + 5) i = dm G i := (b3 i x y).1
      have uc : rI h (f + 7 + 5) c = um G c := (b3 c c0.1 c0.2).2
      rw [da, di, uc] at u
      exact u.trans (jn_d s a0 c0 ⟨x, y⟩ rfl q)
  · rw [riv_um x y, E4 i x y]
    by_cases q : i = c
    · rw [if_pos q, if_pos q]
    · rw [if_neg q, if_neg q]
      have u := A2 i x y
      rw [if_neg q, B1 i x y] at u
      have da : rI h (f + 1 + 5) a = dm G a := (b3 a a0.1 a0.2).1
      have ui : rI h (f + 7 + 5) i = um G i := (b3 i x y).2
      rw [da, ui] at u
      exact u.trans (jn_u s a0 ⟨x, y⟩)
  · rw [n3] at y
    have y6 := w.2.2.1
    obtain ⟨p1, p2, p3⟩ := b4 i x y
    rw [K _ (by omega) (by omega), K _ (by omega) (by omega), K _ (by omega) (by omega)]
    exact ⟨p1.trans (show ha (rivG G a c) i = ha G i from riv_o (by omega)).symm, p2.trans (show pr (rivG G a c) i = pr G i from riv_o (by omega)).symm, p3.trans (show dy (rivG G a c) i = dy G i from riv_o (by omega)).symm⟩
theorem wfR_jn {G : Int → Int} {a c : Int} (a0 : 0 ≤ a ∧ a < 6) (c0 : 0 ≤ c ∧ c < 6) (w : wfR G) : wfR (rivG G a c) := by
  have n1 : nd (rivG G a c) = nd G := riv_o (by omega)
  have n2 : nu (rivG G a c) = nu G := riv_o (by omega)
  have n3 : nc (rivG G a c) = nc G := riv_o (by omega)
  exact ⟨by rw [n1]; exact w.1, by rw [n2]; exact w.2.1, by rw [n3]; exact w.2.2.1, riv_sy a0 c0 w.2.2.2⟩
set_option maxHeartbeats 400000 in
theorem zp_X2_join {ad : mA} {dd : Nat} {h : mH} {Q : mQ} {f : Nat} {G : Int → Int} (hk : fgk h f) (HG : rwF h f G)  (a : Int) (a_r : -2147483648 ≤ a ∧ a < 2147483648) (c : Int) (c_r : -2147483648 ≤ c ∧ c < 2147483648) (pw : wfR G) (a0 : 0 ≤ a ∧ a < 6) (c0 : 0 ≤ c ∧ c < 6) (kq : ∀ h1, frm (fun b k => b = f + 6 ∨ b = f + 12) h h1 → (rwF h1 f (rivG G a c)) → Q none h1) : mCal TB0 ad (dd + 2) M_X2_join [.ref f, .int (zI a), .int (zI c)] h 0 0 Q := by
  refine ⟨Nat.le_of_ble_eq_true rfl, ?_⟩
  show mEv TB0 ad M_X2_join (dd + 2) (0, 0) (mCal TB0 ad (dd + 1)) (fun v h' z => z.1 = 0 ∧ Q v h') 0 [some (.ref f), some (.int (zI a)), some (.int (zI c))] [] h (0, 0)
  have FR0 : frm (fun b k => b = f + 6 ∨ b = f + 12) h h := frm_0 h
  refine e_iload_n dX2_join_0 rfl ?_
  refine z_if_lt 20 dX2_join_1 rfl ⟨by omega, by omega⟩ (fun c1 => ?_) (fun c1 => ?_)
  · exfalso; omega
  · skip
    refine e_iload_n dX2_join_4 rfl ?_
    refine z_bipush (6) dX2_join_5 rfl ?_
    refine z_icmp_ge 20 dX2_join_7 rfl ⟨by omega, by omega⟩ ⟨by omega, by omega⟩ (fun c2 => ?_) (fun c2 => ?_)
    · exfalso; omega
    · skip
      refine e_iload_n dX2_join_10 rfl ?_
      refine z_if_lt 20 dX2_join_11 rfl ⟨by omega, by omega⟩ (fun c3 => ?_) (fun c3 => ?_)
      · exfalso; omega
      · skip
        refine e_iload_n dX2_join_14 rfl ?_
        refine z_bipush (6) dX2_join_15 rfl ?_
        refine z_icmp_lt 21 dX2_join_17 rfl ⟨by omega, by omega⟩ ⟨by omega, by omega⟩ (fun c4 => ?_) (fun c4 => ?_)
        · skip
          refine e_aload_n dX2_join_21 rfl ?_
          refine e_get (.ref (f + 1)) dX2_join_22 tf_2_12 (congrArg Prod.fst (fg_s0 hk)) (congrArg va_rf (fg_r0_0 hk)) ?_
          refine e_aload_n dX2_join_25 rfl ?_
          refine e_get (.ref (f + 7)) dX2_join_26 tf_2_18 (congrArg Prod.fst (fg_s0 hk)) (congrArg va_rf (fg_r0_1 hk)) ?_
          refine e_iload_n dX2_join_29 rfl ?_
          refine e_callS [.ref _, .ref _, .int _] dX2_join_30 tm_2_38 rfl (Nat.le_of_ble_eq_true rfl) (Nat.le_refl _) (Nat.le_refl _) rfl (zp_X2_loosen (fg_bl1 hk) (fg_bl7 hk) a ⟨by omega, by omega⟩ (by omega) (by omega) (by omega) (fun  h5 f6 p7 p8 => ?_))
          have k9 := lk_q (frm_s f6) hk
          have FR10 := frm_t FR0 (frm_m (S' := (fun b k => b = f + 6 ∨ b = f + 12)) f6 (fun a k q => by omega))
          skip
          refine e_aload_n dX2_join_33 rfl ?_
          refine e_get (.ref (f + 7)) dX2_join_34 tf_2_18 (congrArg Prod.fst (fg_s0 k9)) (congrArg va_rf (fg_r0_1 k9)) ?_
          refine e_aload_n dX2_join_37 rfl ?_
          refine e_get (.ref (f + 1)) dX2_join_38 tf_2_12 (congrArg Prod.fst (fg_s0 k9)) (congrArg va_rf (fg_r0_0 k9)) ?_
          refine e_iload_n dX2_join_41 rfl ?_
          refine e_callS [.ref _, .ref _, .int _] dX2_join_42 tm_2_38 rfl (Nat.le_of_ble_eq_true rfl) (Nat.le_refl _) (Nat.le_refl _) rfl (zp_X2_loosen (fg_bl7 k9) (fg_bl1 k9) c ⟨by omega, by omega⟩ (by omega) (by omega) (by omega) (fun  h11 f12 p13 p14 => ?_))
          have k15 := lk_q (frm_s f12) k9
          have FR16 := frm_t FR10 (frm_m (S' := (fun b k => b = f + 6 ∨ b = f + 12)) f12 (fun a k q => by omega))
          skip
          refine e_aload_n dX2_join_45 rfl ?_
          refine e_get (.ref (f + 1)) dX2_join_46 tf_2_12 (congrArg Prod.fst (fg_s0 k15)) (congrArg va_rf (fg_r0_0 k15)) ?_
          refine e_get (.ref (f + 6)) dX2_join_49 tf_2_42 (congrArg Prod.fst (fg_s1 k15)) (congrArg va_rf (fg_r1_4 k15)) ?_
          refine e_iload_n dX2_join_52 rfl ?_
          refine e_iload_n dX2_join_53 rfl ?_
          refine z_ist dX2_join_54 (fg_s6 k15) (by decide) (by omega) (by omega) (fun h17 e18 => ?_)
          have f19 := frm_1 e18
          have k20 := lk_q (frm_s f19) k15
          have FR21 := frm_t FR16 (frm_m (S' := (fun b k => b = f + 6 ∨ b = f + 12)) f19 (fun a k q => by omega))
          refine e_aload_n dX2_join_55 rfl ?_
          refine e_get (.ref (f + 7)) dX2_join_56 tf_2_18 (congrArg Prod.fst (fg_s0 k20)) (congrArg va_rf (fg_r0_1 k20)) ?_
          refine e_get (.ref (f + 12)) dX2_join_59 tf_2_42 (congrArg Prod.fst (fg_s7 k20)) (congrArg va_rf (fg_r7_4 k20)) ?_
          refine e_iload_n dX2_join_62 rfl ?_
          refine e_iload_n dX2_join_63 rfl ?_
          refine z_ist dX2_join_64 (fg_s12 k20) (by decide) (by omega) (by omega) (fun h22 e23 => ?_)
          have f24 := frm_1 e23
          have k25 := lk_q (frm_s f24) k20
          have FR26 := frm_t FR21 (frm_m (S' := (fun b k => b = f + 6 ∨ b = f + 12)) f24 (fun a k q => by omega))
          refine e_vret dX2_join_65 rfl ⟨rfl, ?_⟩
          exact kq _ FR26 (rwF_jn pw pw.2.2.2 a0 c0 HG p7 p8 p13 p14 (fun j x y => by
            by_cases q : j = a
            · rw [if_pos q, q]; exact ((frm_r f24 (by omega)).trans (rI_eq e18 ⟨by omega, by omega⟩))
            · rw [if_neg q]; exact ((frm_r f24 (by omega)).trans (frm_r f19 (by omega)))) (fun j x y => by
            by_cases q : j = c
            · rw [if_pos q, q]; exact (rI_eq e23 ⟨by omega, by omega⟩)
            · rw [if_neg q]; exact ((frm_r f24 (by omega)).trans (frm_r f19 (by omega)))) (fun x n1 n2 z => ((frm_r f24 (by omega)).trans ((frm_r f19 (by omega)).trans ((frm_r f12 (by omega)).trans (frm_r f6 (by omega)))))))
        · exfalso; omega
